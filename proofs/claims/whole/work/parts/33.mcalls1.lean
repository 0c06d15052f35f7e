/-! ===== the reference: calls, 1 ===== -/
abbrev PM (A' : Abs) (σ : Sto) (v : Int32) : Option Value → Sto → Prop := fun r τ => r = some (.int v) ∧ RM A' τ ∧ FrM σ τ
abbrev RW (A : Abs) (σ : Sto) : Prop := brM A σ ∧ mrow σ 120 0 (aN A) (aC A) ∧ pastM A σ ∧ imgM A σ ∧ seenM A σ ∧ txM A σ ∧ σ.2 117 = aR A
theorem PM.id {A : Abs} {σ : Sto} (h : RM A σ) {v w : Int32} (e : v = w) : PM A σ w (some (.int v)) σ := ⟨by rw [e], h, FrM.rf σ⟩
theorem PM.now {A : Abs} {σ : Sto} (h : RM A σ) {v w : Int32} (e : v = w) : PM A σ w (some (.int v)) (nowW σ) := ⟨by rw [e], h.mv (mls_now σ), (mls_now σ).fr⟩
theorem RM.nwR {A : Abs} {σ : Sto} (h : RM A σ) : nwR A (nowW σ) (aC A) := ⟨h.n6, (h.mv (mls_now σ)).2.1, h.now, h.1.2.2.1⟩
theorem RM.known {A : Abs} {σ : Sto} (h : RM A σ) : σ.1 117 5 = nI (aP A).length := h.2.2.2.1.1
theorem RM.told {A : Abs} {σ : Sto} (h : RM A σ) : σ.1 117 8 = nI (aS A).length := h.2.2.2.2.2.1.1
theorem RM.texted {A : Abs} {σ : Sto} (h : RM A σ) : σ.1 117 13 = nI (aT A).1 := h.2.2.2.2.2.2.1.1
theorem RM.potE {A : Abs} {σ : Sto} (h : RM A σ) {p : Nat} (hp : p < 4) : σ.1 120 p = (aC A).1 p := by have := h.2.2.1.1 p hp; rw [Nat.zero_add] at this; exact this
theorem RM.coldE {A : Abs} {σ : Sto} (h : RM A σ) : σ.1 120 4 = cldD (aC A).2.1 := h.2.2.1.2.1
theorem RM.shownE {A : Abs} {σ : Sto} (h : RM A σ) {b : Nat} (hb : b < aN A) : σ.1 120 (5 + b) = (aC A).2.2 b := by have := h.2.2.1.2.2 b hb; rw [Nat.zero_add] at this; exact this
theorem RM.c01 {A : Abs} {σ : Sto} (h : RM A σ) : ∀ b, b < 6 → (aC A).2.1 b = 0 ∨ (aC A).2.1 b = 1 := h.1.2.2.1.2
theorem RM.len10 {A : Abs} {σ : Sto} (h : RM A σ) : (aP A).length ≤ 10 := h.1.2.2.2.2.2.2.1
theorem brE {A : Abs} (h : AI A) {b : Nat} (hb : b < aN A) : bI (okB A (nI b)) = 1 := bI_t (okB_nI hb h.1)
/-- sets of brothers by their number -/
theorem or_bit : ∀ m, m < 64 → ∀ b, b < 6 → m < 2 ^ b → nI m ||| 1 <<< (nI b &&& 31) = nI (m + 2 ^ b) := by decide +kernel
theorem calm_num (P : Nat → Prop) [∀ b, Decidable (P b)] : ∀ n, n ≤ 6 → ∃ m, m < 2 ^ n ∧ itN (fun b (a : Int32) => if P b then a ||| 1 <<< (nI b &&& 31) else a) n 0 = nI m := by
  intro n
  induction n with
  | zero => intro _; exact ⟨0, by decide, rfl⟩
  | succ n ih =>
    intro hn
    obtain ⟨m, hm, e⟩ := ih (by omega)
    have h2 : (2 : Nat) ^ (n + 1) = 2 * 2 ^ n := by rw [Nat.pow_succ, Nat.mul_comm]
    have h3 : (2 : Nat) ^ n ≤ 32 := (by decide : ∀ n, n ≤ 5 → (2 : Nat) ^ n ≤ 32) n (by omega)
    show ∃ m, _ ∧ (if P n then itN (fun b (a : Int32) => if P b then a ||| 1 <<< (nI b &&& 31) else a) n 0 ||| 1 <<< (nI n &&& 31) else itN (fun b (a : Int32) => if P b then a ||| 1 <<< (nI b &&& 31) else a) n 0) = nI m
    rw [e]
    by_cases q : P n
    · exact ⟨m + 2 ^ n, by omega, by rw [if_pos q, or_bit m (by omega) n (by omega) hm]⟩
    · exact ⟨m, by omega, by rw [if_neg q]⟩
theorem bt_bc : ∀ m, m < 64 → btD (nI m) = bcD (nI m) := by decide +kernel
theorem calm_lt {A : Abs} (h : aN A ≤ 6) : ∃ m, m < 64 ∧ calmA' A = nI m := by
  obtain ⟨m, hm, e⟩ := calm_num (fun b => mienA A b = 0) (aN A) h
  have h3 : (2 : Nat) ^ aN A ≤ 64 := (by decide : ∀ n, n ≤ 6 → (2 : Nat) ^ n ≤ 64) _ h
  exact ⟨m, by omega, e⟩
theorem bt_calm {A : Abs} (h : aN A ≤ 6) : btD (calmA' A) = bcD (calmA' A) := by
  obtain ⟨m, hm, e⟩ := calm_lt h
  rw [e]; exact bt_bc m hm
theorem cld_val : ∀ m, m < 64 → cldD (fun i => nI (m / 2 ^ i % 2)) = nI m := by decide +kernel
theorem bt_cld {f : Nat → Int32} (h : ∀ b, b < 6 → f b = 0 ∨ f b = 1) : btD (cldD f) = bcD (cldD f) := by
  obtain ⟨m, hm, e⟩ := cld_num h
  rw [cldD_congr e, cld_val m hm]; exact bt_bc m hm
theorem cld_x : ∀ m, m < 64 → ∀ b, b < 6 → cldD (fun i => if i = b then nI (1 - m / 2 ^ b % 2) else nI (m / 2 ^ i % 2)) = nI m ^^^ (1 <<< (nI b &&& 31)) := by decide +kernel
theorem cld_xor {f : Nat → Int32} (h : ∀ b, b < 6 → f b = 0 ∨ f b = 1) {b : Nat} (hb : b < 6) {x : Int32} (hx : x = 0 ∨ x = 1) (hn : ¬ f b = x) : cldD f ^^^ (1 <<< (nI b &&& 31)) = cldD (fun c => if c = b then x else f c) := by
  obtain ⟨m, hm, e⟩ := cld_num h
  have hl : m / 2 ^ b % 2 < 2 := Nat.mod_lt _ (by decide)
  have eb := e b hb
  have ex : x = nI (1 - m / 2 ^ b % 2) := by
    rcases (show m / 2 ^ b % 2 = 0 ∨ m / 2 ^ b % 2 = 1 by omega) with z | z
    · rw [z] at eb ⊢; rcases hx with rfl | rfl; exact absurd eb hn; rfl
    · rw [z] at eb ⊢; rcases hx with rfl | rfl; rfl; exact absurd eb hn
  rw [cldD_congr e, cld_val m hm, ← cld_x m hm b hb]
  refine cldD_congr (fun i hi => ?_)
  by_cases q : i = b
  · rw [if_pos q, if_pos q, ex]
  · rw [if_neg q, if_neg q, e i hi]
set_option maxRecDepth 100000 in
theorem b_X8_calm {S : Scr} {A : Abs} {s : Scn} (b : Nat) (hb : b < aN A) (a : Int32) (σ : Sto) {Q : Option Value → Sto → Prop} (h : nwR A σ s) (K : Ev S RX8 cX8_calm 3 (some .int) 4 4 [.ref 117, .int (if mienD (aL A b) (aB A b) s.1 (s.2.1 b) = 0 then a ||| 1 <<< (nI b &&& 31) else a), .int (nI (b + 1))] [] σ (Q)) : Ev S RX8 cX8_calm 3 (some .int) 4 4 [.ref 117, .int a, .int (nI b)] [] σ (Q) := by
  refine ev_iload_n_2 (pc := 4) dX8_calm_4 ?_
  refine ev_aload_n_0 (pc := 5) dX8_calm_5 ?_
  refine ev_getI (pc := 6) dX8_calm_6 fl_X8_50 (by decide) (by decide) (by decide) ?_
  refine ev_icmp_ge (pc := 9) (tgt := 36) dX8_calm_9 (by decide) (fun h9 => by exact absurd h9 (by rw [h.2.1.1]; exact nI_ge hb (by have := h.1; omega))) (fun h9 => ?_)
  refine ev_iload_n_1 (pc := 12) dX8_calm_12 ?_
  refine ev_aload_n_0 (pc := 13) dX8_calm_13 ?_
  refine ev_iload_n_2 (pc := 14) dX8_calm_14 ?_
  refine ev_callV1 (pc := 15) dX8_calm_15 ml_X8_141 (m_X8_mien b hb σ h) (by decide) ⟨_, rfl, rfl⟩ rfl (by decide) rfl (Nat.le_of_ble_eq_true rfl) ?_
  refine ev_if_ne (pc := 18) (tgt := 27) dX8_calm_18 (by decide) (fun h18 => ?_) (fun h18 => ?_)
  · skip
    refine ev_iconst (pc := 27) (v := 0) dX8_calm_27 (by decide) ?_
    refine ev_ior (pc := 28) dX8_calm_28 ?_
    refine ev_istore_n_1 (pc := 29) dX8_calm_29 (by decide) ?_
    refine ev_iinc_2 (pc := 30) (v := nI (b + 1)) dX8_calm_30 (nI_inc b) (by decide) ?_
    refine ev_goto (pc := 33) (tgt := 4) dX8_calm_33 (by decide) ?_
    exact ev_eq (by first | simp only [h18, ↓reduceIte, Int32.or_zero] | simp only [h18, not_false_eq_true, ↓reduceIte, Int32.or_zero]) rfl rfl K
  · skip
    refine ev_iconst (pc := 21) (v := 1) dX8_calm_21 (by decide) ?_
    refine ev_iload_n_2 (pc := 22) dX8_calm_22 ?_
    refine ev_ishl (pc := 23) dX8_calm_23 ?_
    refine ev_goto (pc := 24) (tgt := 28) dX8_calm_24 (by decide) ?_
    refine ev_ior (pc := 28) dX8_calm_28 ?_
    refine ev_istore_n_1 (pc := 29) dX8_calm_29 (by decide) ?_
    refine ev_iinc_2 (pc := 30) (v := nI (b + 1)) dX8_calm_30 (nI_inc b) (by decide) ?_
    refine ev_goto (pc := 33) (tgt := 4) dX8_calm_33 (by decide) ?_
    exact ev_eq (by first | simp only [h18, ↓reduceIte, Int32.or_zero] | simp only [h18, not_false_eq_true, ↓reduceIte, Int32.or_zero]) rfl rfl K
theorem m_X8_calm {S : Scr} {A : Abs} {s : Scn} (σ : Sto) (h : nwR A σ s) : Mt S yX8_calm cX8_calm 3 (some .int) 4 [.ref 117] σ (Is (some (.int (calmA' (setC A s)))) σ) := by
  refine mt_of (ls := [.ref 117, .null, .null]) (by decide) rfl (Nat.le_of_ble_eq_true rfl) (by simp [Value.category]) ?_
  refine ev_iconst (pc := 0) (v := 0) dX8_calm_0 (by decide) ?_
  refine ev_istore_n_1 (pc := 1) dX8_calm_1 (by decide) ?_
  refine ev_iconst (pc := 2) (v := 0) dX8_calm_2 (by decide) ?_
  refine ev_istore_n_2 (pc := 3) dX8_calm_3 (by decide) ?_
  refine for_up (aN A) (fun b a => Ev S RX8 cX8_calm 3 (some .int) 4 4 [.ref 117, .int a, .int (nI b)] [] σ (Is (some (.int (calmA' (setC A s)))) σ)) (fun b a => if mienD (aL A b) (aB A b) s.1 (s.2.1 b) = 0 then a ||| 1 <<< (nI b &&& 31) else a) (fun b a hb K => b_X8_calm b hb a σ h K) 0 ?_
  refine ev_iload_n_2 (pc := 4) dX8_calm_4 ?_
  refine ev_aload_n_0 (pc := 5) dX8_calm_5 ?_
  refine ev_getI (pc := 6) dX8_calm_6 fl_X8_50 (by decide) (by decide) (by decide) ?_
  refine ev_icmp_ge (pc := 9) (tgt := 36) dX8_calm_9 (by decide) (fun h9 => ?_) (fun h9 => by exact absurd (by rw [h.2.1.1]; exact Int32.le_refl _) h9)
  refine ev_iload_n_1 (pc := 36) dX8_calm_36 ?_
  exact ev_ireturn (pc := 37) dX8_calm_37 rfl rfl (⟨rfl, rfl⟩)
set_option maxRecDepth 100000 in
theorem b_X8_mindAll {S : Scr} {A : Abs} {s : Scn} (b : Nat) (hb : b < aN A) (a : Int32) (σ : Sto) {Q : Option Value → Sto → Prop} (h : nwR A σ s) (K : Ev S RX8 cX8_mindAll 3 (some .int) 3 4 [.ref 117, .int (a + mindD (aL A b) s.1 (s.2.1 b)), .int (nI (b + 1))] [] σ (Q)) : Ev S RX8 cX8_mindAll 3 (some .int) 3 4 [.ref 117, .int a, .int (nI b)] [] σ (Q) := by
  refine ev_iload_n_2 (pc := 4) dX8_mindAll_4 ?_
  refine ev_aload_n_0 (pc := 5) dX8_mindAll_5 ?_
  refine ev_getI (pc := 6) dX8_mindAll_6 fl_X8_50 (by decide) (by decide) (by decide) ?_
  refine ev_icmp_ge (pc := 9) (tgt := 26) dX8_mindAll_9 (by decide) (fun h9 => by exact absurd h9 (by rw [h.2.1.1]; exact nI_ge hb (by have := h.1; omega))) (fun h9 => ?_)
  refine ev_iload_n_1 (pc := 12) dX8_mindAll_12 ?_
  refine ev_aload_n_0 (pc := 13) dX8_mindAll_13 ?_
  refine ev_iload_n_2 (pc := 14) dX8_mindAll_14 ?_
  refine ev_callV1 (pc := 15) dX8_mindAll_15 ml_X8_144 (m_X8_mind b hb σ h) (by decide) ⟨_, rfl, rfl⟩ rfl (by decide) rfl (Nat.le_of_ble_eq_true rfl) ?_
  refine ev_iadd (pc := 18) dX8_mindAll_18 ?_
  refine ev_istore_n_1 (pc := 19) dX8_mindAll_19 (by decide) ?_
  refine ev_iinc_2 (pc := 20) (v := nI (b + 1)) dX8_mindAll_20 (nI_inc b) (by decide) ?_
  refine ev_goto (pc := 23) (tgt := 4) dX8_mindAll_23 (by decide) ?_
  exact K
theorem m_X8_mindAll {S : Scr} {A : Abs} {s : Scn} (σ : Sto) (h : nwR A σ s) : Mt S yX8_mindAll cX8_mindAll 3 (some .int) 3 [.ref 117] σ (Is (some (.int (mindAll (setC A s)))) σ) := by
  refine mt_of (ls := [.ref 117, .null, .null]) (by decide) rfl (Nat.le_of_ble_eq_true rfl) (by simp [Value.category]) ?_
  refine ev_iconst (pc := 0) (v := 0) dX8_mindAll_0 (by decide) ?_
  refine ev_istore_n_1 (pc := 1) dX8_mindAll_1 (by decide) ?_
  refine ev_iconst (pc := 2) (v := 0) dX8_mindAll_2 (by decide) ?_
  refine ev_istore_n_2 (pc := 3) dX8_mindAll_3 (by decide) ?_
  refine for_up (aN A) (fun b a => Ev S RX8 cX8_mindAll 3 (some .int) 3 4 [.ref 117, .int a, .int (nI b)] [] σ (Is (some (.int (mindAll (setC A s)))) σ)) (fun b a => a + mindD (aL A b) s.1 (s.2.1 b)) (fun b a hb K => b_X8_mindAll b hb a σ h K) 0 ?_
  refine ev_iload_n_2 (pc := 4) dX8_mindAll_4 ?_
  refine ev_aload_n_0 (pc := 5) dX8_mindAll_5 ?_
  refine ev_getI (pc := 6) dX8_mindAll_6 fl_X8_50 (by decide) (by decide) (by decide) ?_
  refine ev_icmp_ge (pc := 9) (tgt := 26) dX8_mindAll_9 (by decide) (fun h9 => ?_) (fun h9 => by exact absurd (by rw [h.2.1.1]; exact Int32.le_refl _) h9)
  refine ev_iload_n_1 (pc := 26) dX8_mindAll_26 ?_
  exact ev_ireturn (pc := 27) dX8_mindAll_27 rfl rfl (⟨rfl, rfl⟩)
/-- what deed d makes of a part -/
def dsF (f : Nat → Int32) (d p : Nat) : Int32 := if d = p then f p + 1 else if d = 4 then (if f p ≤ 0 then f p else f p - 1) else f p
def dsK (σ : Sto) (d k : Nat) : Sto := (fun a b => if a = 129 ∧ b < k then dsF (σ.1 129) d b else σ.1 a b, σ.2)
theorem dsK_0 (σ : Sto) (d : Nat) : dsK σ d 0 = σ := by
  refine Prod.ext (funext fun a => funext fun b => ?_) rfl
  unfold dsK
  show (if a = 129 ∧ b < 0 then _ else _) = _
  rw [if_neg (by omega)]
theorem dsK_s (σ : Sto) (d k : Nat) : wr (dsK σ d k) 129 k (dsF (σ.1 129) d k) = dsK σ d (k + 1) := by
  refine Prod.ext (funext fun a => funext fun b => ?_) rfl
  unfold wr dsK
  show (if a = 129 ∧ b = k then _ else if a = 129 ∧ b < k then _ else _) = if a = 129 ∧ b < k + 1 then _ else _
  by_cases e : a = 129
  · by_cases e2 : b = k
    · rw [if_pos ⟨e, e2⟩, if_pos ⟨e, by omega⟩, e2]
    · rw [if_neg (fun z => e2 z.2)]
      by_cases e3 : b < k
      · rw [if_pos ⟨e, e3⟩, if_pos ⟨e, by omega⟩]
      · rw [if_neg (fun z => e3 z.2), if_neg (fun z => e3 (by omega))]
  · rw [if_neg (fun z => e z.1), if_neg (fun z => e z.1), if_neg (fun z => e z.1)]
theorem dsK_ne {σ : Sto} {d k c : Nat} (h : c ≠ 129) : (dsK σ d k).1 c = σ.1 c := by funext b; unfold dsK; simp [h]
theorem dsK_in {σ : Sto} {d k j : Nat} (h : j < k) : (dsK σ d k).1 129 j = dsF (σ.1 129) d j := by unfold dsK; simp [h]
theorem dsK_out {σ : Sto} {d k j : Nat} (h : ¬ j < k) : (dsK σ d k).1 129 j = σ.1 129 j := by unfold dsK; simp [h]
theorem mls_ds (σ : Sto) (d k : Nat) : Mls σ (dsK σ d k) := ⟨rfl, fun c hc => dsK_ne (by omega), fun c h1 h2 => dsK_ne (by omega), fun j _ => by rw [dsK_ne (by decide)]⟩
theorem nI_eqI {a b : Nat} (ha : a < 100) (hb : b < 100) : nI a = nI b ↔ a = b := ⟨fun h => nI_inj h (by omega) (by omega), fun h => by rw [h]⟩
set_option maxRecDepth 100000 in
theorem b_X8_does {S : Scr} (e : Nat) (he : e < 6) (k : Nat) (hk : k < 4) (x : Value) (hx : x = .null ∨ ∃ v, x = .int v) (τ : Sto) {Q : Option Value → Sto → Prop} (K : ∀ x, (x = .null ∨ ∃ v, x = .int v) → Ev S RX8 cX8_does 4 none 0 2 [.ref 117, .int (nI e), .int (nI (k + 1)), x] [] (wr τ 129 k (dsF (τ.1 129) e k)) (Q)) : Ev S RX8 cX8_does 4 none 0 2 [.ref 117, .int (nI e), .int (nI k), x] [] τ (Q) := by
  refine ev_iload_n_2 (pc := 2) dX8_does_2 ?_
  refine ev_iconst (pc := 3) (v := 4) dX8_does_3 (by decide) ?_
  refine ev_icmp_ge (pc := 4) (tgt := 57) dX8_does_4 (by decide) (fun h4 => by exact absurd h4 (nI_ge (a := k) (b := 4) hk (by decide))) (fun h4 => ?_)
  refine ev_aload_n_0 (pc := 7) dX8_does_7 ?_
  refine ev_getR (pc := 8) (r := 129) dX8_does_8 fl_X8_44 (by decide) (by decide) (by decide) (by decide) ?_
  refine ev_iconst (pc := 11) (v := 0) dX8_does_11 (by decide) ?_
  refine ev_iload_n_2 (pc := 12) dX8_does_12 ?_
  refine ev_iaddc (pc := 13) (v := nI k) dX8_does_13 (nI_zadd k) ?_
  refine ev_iaload' (pc := 14) (j := k) dX8_does_14 (by decide) (by decide) (show vp_in _ 11 from (vp_in_nI (by omega) (by decide))) (nI_clamp (by omega)) ?_
  refine ev_istore_n_3 (pc := 15) dX8_does_15 (by decide) ?_
  refine ev_aload_n_0 (pc := 16) dX8_does_16 ?_
  refine ev_getR (pc := 17) (r := 129) dX8_does_17 fl_X8_44 (by decide) (by decide) (by decide) (by decide) ?_
  refine ev_iconst (pc := 20) (v := 0) dX8_does_20 (by decide) ?_
  refine ev_iload_n_2 (pc := 21) dX8_does_21 ?_
  refine ev_iaddc (pc := 22) (v := nI k) dX8_does_22 (nI_zadd k) ?_
  refine ev_iload_n_1 (pc := 23) dX8_does_23 ?_
  refine ev_iload_n_2 (pc := 24) dX8_does_24 ?_
  refine ev_icmp_ne (pc := 25) (tgt := 34) dX8_does_25 (by decide) (fun h25 => ?_) (fun h25 => ?_)
  · skip
    refine ev_iload_n_1 (pc := 34) dX8_does_34 ?_
    refine ev_iconst (pc := 35) (v := 4) dX8_does_35 (by decide) ?_
    refine ev_icmp_ne (pc := 36) (tgt := 49) dX8_does_36 (by decide) (fun h36 => ?_) (fun h36 => ?_)
    · skip
      refine ev_iload_n_3 (pc := 49) dX8_does_49 ?_
      refine ev_iastore' (pc := 50) (j := k) dX8_does_50 (by decide) (by decide) (show vp_in _ 11 from (vp_in_nI (by omega) (by decide))) (nI_clamp (by omega)) ?_
      refine ev_iinc_2 (pc := 51) (v := nI (k + 1)) dX8_does_51 (nI_inc k) (by decide) ?_
      refine ev_goto (pc := 54) (tgt := 2) dX8_does_54 (by decide) ?_
      exact ev_eq rfl rfl (congrArg (wr τ 129 k) (by unfold dsF; rw [if_neg (fun z => h25 (by rw [z])), if_neg (fun z => h36 (by rw [z]; rfl))])) (K _ (Or.inr ⟨_, rfl⟩))
    · skip
      refine ev_iload_n_3 (pc := 39) dX8_does_39 ?_
      refine ev_if_le (pc := 40) (tgt := 49) dX8_does_40 (by decide) (fun h40 => ?_) (fun h40 => ?_)
      · skip
        refine ev_iload_n_3 (pc := 49) dX8_does_49 ?_
        refine ev_iastore' (pc := 50) (j := k) dX8_does_50 (by decide) (by decide) (show vp_in _ 11 from (vp_in_nI (by omega) (by decide))) (nI_clamp (by omega)) ?_
        refine ev_iinc_2 (pc := 51) (v := nI (k + 1)) dX8_does_51 (nI_inc k) (by decide) ?_
        refine ev_goto (pc := 54) (tgt := 2) dX8_does_54 (by decide) ?_
        exact ev_eq rfl rfl (congrArg (wr τ 129 k) (by unfold dsF; rw [if_neg (fun z => h25 (by rw [z])), if_pos (nI_inj (b := 4) h36 (by omega) (by omega)), if_pos h40])) (K _ (Or.inr ⟨_, rfl⟩))
      · skip
        refine ev_iload_n_3 (pc := 43) dX8_does_43 ?_
        refine ev_iconst (pc := 44) (v := 1) dX8_does_44 (by decide) ?_
        refine ev_isub (pc := 45) dX8_does_45 ?_
        refine ev_goto (pc := 46) (tgt := 50) dX8_does_46 (by decide) ?_
        refine ev_iastore' (pc := 50) (j := k) dX8_does_50 (by decide) (by decide) (show vp_in _ 11 from (vp_in_nI (by omega) (by decide))) (nI_clamp (by omega)) ?_
        refine ev_iinc_2 (pc := 51) (v := nI (k + 1)) dX8_does_51 (nI_inc k) (by decide) ?_
        refine ev_goto (pc := 54) (tgt := 2) dX8_does_54 (by decide) ?_
        exact ev_eq rfl rfl (congrArg (wr τ 129 k) (by unfold dsF; rw [if_neg (fun z => h25 (by rw [z])), if_pos (nI_inj (b := 4) h36 (by omega) (by omega)), if_neg h40])) (K _ (Or.inr ⟨_, rfl⟩))
  · skip
    refine ev_iload_n_3 (pc := 28) dX8_does_28 ?_
    refine ev_iconst (pc := 29) (v := 1) dX8_does_29 (by decide) ?_
    refine ev_iadd (pc := 30) dX8_does_30 ?_
    refine ev_goto (pc := 31) (tgt := 50) dX8_does_31 (by decide) ?_
    refine ev_iastore' (pc := 50) (j := k) dX8_does_50 (by decide) (by decide) (show vp_in _ 11 from (vp_in_nI (by omega) (by decide))) (nI_clamp (by omega)) ?_
    refine ev_iinc_2 (pc := 51) (v := nI (k + 1)) dX8_does_51 (nI_inc k) (by decide) ?_
    refine ev_goto (pc := 54) (tgt := 2) dX8_does_54 (by decide) ?_
    exact ev_eq rfl rfl (congrArg (wr τ 129 k) (by unfold dsF; rw [if_pos (nI_inj h25 (by omega) (by omega))])) (K _ (Or.inr ⟨_, rfl⟩))
theorem ds_all (σ : Sto) (e : Nat) : wr (wr (wr (wr σ 129 0 (dsF (σ.1 129) e 0)) 129 1 (dsF ((wr σ 129 0 (dsF (σ.1 129) e 0)).1 129) e 1)) 129 2 (dsF ((wr (wr σ 129 0 (dsF (σ.1 129) e 0)) 129 1 (dsF ((wr σ 129 0 (dsF (σ.1 129) e 0)).1 129) e 1)).1 129) e 2)) 129 3 (dsF ((wr (wr (wr σ 129 0 (dsF (σ.1 129) e 0)) 129 1 (dsF ((wr σ 129 0 (dsF (σ.1 129) e 0)).1 129) e 1)) 129 2 (dsF ((wr (wr σ 129 0 (dsF (σ.1 129) e 0)) 129 1 (dsF ((wr σ 129 0 (dsF (σ.1 129) e 0)).1 129) e 1)).1 129) e 2)).1 129) e 3) = dsK σ e 4 := by
  have c : ∀ (f g : Nat → Int32) k, f k = g k → dsF f e k = dsF g e k := fun f g k h => by unfold dsF; rw [h]
  rw [← dsK_s, ← dsK_s, ← dsK_s, ← dsK_s, dsK_0]
  rw [c ((wr σ 129 0 _).1 129) (σ.1 129) 1 (wr_nj (by decide))]
  rw [c ((wr (wr σ 129 0 _) 129 1 _).1 129) (σ.1 129) 2 (by rw [wr_nj (by decide), wr_nj (by decide)])]
  rw [c ((wr (wr (wr σ 129 0 _) 129 1 _) 129 2 _).1 129) (σ.1 129) 3 (by rw [wr_nj (by decide), wr_nj (by decide), wr_nj (by decide)])]
theorem m_X8_does {S : Scr} (e : Nat) (he : e < 6) (σ : Sto) : Mt S yX8_does cX8_does 4 none 0 [.ref 117, .int (nI e)] σ (Is none (dsK σ e 4)) := by
  refine mt_of (ls := [.ref 117, .int (nI e), .null, .null]) (by decide) rfl (Nat.le_of_ble_eq_true rfl) (by simp [Value.category]) ?_
  refine ev_iconst (pc := 0) (v := 0) dX8_does_0 (by decide) ?_
  refine ev_istore_n_2 (pc := 1) dX8_does_1 (by decide) ?_
  refine b_X8_does e he 0 (by decide) _ (Or.inl rfl) σ (fun x0 hx0 => ?_)
  refine b_X8_does e he 1 (by decide) x0 hx0 _ (fun x1 hx1 => ?_)
  refine b_X8_does e he 2 (by decide) x1 hx1 _ (fun x2 hx2 => ?_)
  refine b_X8_does e he 3 (by decide) x2 hx2 _ (fun x3 hx3 => ?_)
  refine ev_eq rfl rfl (σ' := dsK σ e 4) ?_ ?_
  · exact ds_all σ e
  · skip
    refine ev_iload_n_2 (pc := 2) dX8_does_2 ?_
    refine ev_iconst (pc := 3) (v := 4) dX8_does_3 (by decide) ?_
    refine ev_icmp_ge (pc := 4) (tgt := 57) dX8_does_4 (by decide) (fun h4 => ?_) (fun h4 => by exact absurd h4 (by decide))
    exact ev_return (pc := 57) dX8_does_57 rfl (⟨rfl, rfl⟩)
abbrev cbP (s : Scn) (e : Nat) : Prop := if e = 4 then ¬ totA s ≤ 0 else s.1 e < 5
set_option maxRecDepth 100000 in
theorem m_X8_canBe {S : Scr} {A : Abs} {s : Scn} (e : Nat) (he : e < 5) (σ : Sto) (h : nwR A σ s) : Mt S yX8_canBe cX8_canBe 2 (some .boolean) 1 [.ref 117, .int (nI e)] σ (Is (some (.int (bI (cbP s e)))) σ) := by
  refine mt_of (ls := [.ref 117, .int (nI e)]) (by decide) rfl (Nat.le_of_ble_eq_true rfl) (by simp [Value.category]) ?_
  refine ev_iload_n_1 (pc := 0) dX8_canBe_0 ?_
  refine ev_iconst (pc := 1) (v := 4) dX8_canBe_1 (by decide) ?_
  refine ev_icmp_ne (pc := 2) (tgt := 20) dX8_canBe_2 (by decide) (fun h2 => ?_) (fun h2 => ?_)
  · skip
    refine ev_aload_n_0 (pc := 20) dX8_canBe_20 ?_
    refine ev_getR (pc := 21) (r := 129) dX8_canBe_21 fl_X8_44 (by decide) (by decide) (by decide) (by decide) ?_
    refine ev_iconst (pc := 24) (v := 0) dX8_canBe_24 (by decide) ?_
    refine ev_iload_n_1 (pc := 25) dX8_canBe_25 ?_
    refine ev_iaddc (pc := 26) (v := nI e) dX8_canBe_26 (nI_zadd e) ?_
    refine ev_iaload' (pc := 27) (j := e) dX8_canBe_27 (by decide) (by decide) (show vp_in _ 11 from (vp_in_nI (by omega) (by decide))) (nI_clamp (by omega)) ?_
    refine ev_iconst (pc := 28) (v := 5) dX8_canBe_28 (by decide) ?_
    refine ev_icmp_ge (pc := 29) (tgt := 36) dX8_canBe_29 (by decide) (fun h29 => ?_) (fun h29 => ?_)
    · skip
      refine ev_iconst (pc := 36) (v := 0) dX8_canBe_36 (by decide) ?_
      exact ev_ireturn (pc := 37) dX8_canBe_37 rfl rfl (⟨by have e4 : ¬ e = 4 := fun z => h2 (by rw [z]; rfl); have q := h.2.2.1.1 e (by omega); rw [Nat.zero_add] at q; rw [q] at h29; rw [bI_f (by unfold cbP; rw [if_neg e4]; exact Int32.not_lt.mpr h29)], rfl⟩)
    · skip
      refine ev_iconst (pc := 32) (v := 1) dX8_canBe_32 (by decide) ?_
      refine ev_goto (pc := 33) (tgt := 37) dX8_canBe_33 (by decide) ?_
      exact ev_ireturn (pc := 37) dX8_canBe_37 rfl rfl (⟨by have e4 : ¬ e = 4 := fun z => h2 (by rw [z]; rfl); have q := h.2.2.1.1 e (by omega); rw [Nat.zero_add] at q; rw [q] at h29; rw [bI_t (by unfold cbP; rw [if_neg e4]; exact Int32.not_le.mp h29)], rfl⟩)
  · skip
    refine ev_aload_n_0 (pc := 5) dX8_canBe_5 ?_
    refine ev_callV1 (pc := 6) dX8_canBe_6 ml_X8_147 (m_X8_inPot σ h) (by decide) ⟨_, rfl, rfl⟩ rfl (by decide) rfl (Nat.le_of_ble_eq_true rfl) ?_
    refine ev_if_le (pc := 9) (tgt := 16) dX8_canBe_9 (by decide) (fun h9 => ?_) (fun h9 => ?_)
    · skip
      refine ev_iconst (pc := 16) (v := 0) dX8_canBe_16 (by decide) ?_
      refine ev_goto (pc := 17) (tgt := 37) dX8_canBe_17 (by decide) ?_
      exact ev_ireturn (pc := 37) dX8_canBe_37 rfl rfl (⟨by have e4 : e = 4 := nI_inj (b := 4) h2 (by omega) (by omega); rw [bI_f (by unfold cbP; rw [if_pos e4]; exact fun z => z h9)], rfl⟩)
    · skip
      refine ev_iconst (pc := 12) (v := 1) dX8_canBe_12 (by decide) ?_
      refine ev_goto (pc := 13) (tgt := 37) dX8_canBe_13 (by decide) ?_
      exact ev_ireturn (pc := 37) dX8_canBe_37 rfl rfl (⟨by have e4 : e = 4 := nI_inj (b := 4) h2 (by omega) (by omega); rw [bI_t (by unfold cbP; rw [if_pos e4]; exact h9)], rfl⟩)
theorem nwR.potE {A : Abs} {σ : Sto} {s : Scn} (h : nwR A σ s) {p : Nat} (hp : p < 4) : σ.1 129 p = s.1 p := by have := h.2.2.1.1 p hp; rw [Nat.zero_add] at this; exact this
set_option maxRecDepth 100000 in
theorem m_X8_pot {S : Scr} {A : Abs} (p : Nat) (hp : p < 4) (σ : Sto) (h : RM A σ) : Mt S yX8_pot cX8_pot 2 (some .int) 2 [.ref 117, .int (nI p)] σ (PM A σ ((aC A).1 p)) := by
  refine mt_of (ls := [.ref 117, .int (nI p)]) (by decide) rfl (Nat.le_of_ble_eq_true rfl) (by simp [Value.category]) ?_
  refine ev_iload_n_1 (pc := 0) dX8_pot_0 ?_
  refine ev_callS1 (pc := 1) dX8_pot_1 ml_X8_151 (m_X8_isPart _ σ) rfl (by decide) rfl (Nat.le_of_ble_eq_true rfl) ?_
  rw [bI_t (okP_nI p hp)]
  refine ev_if_eq (pc := 4) (tgt := 18) dX8_pot_4 (by decide) (fun h4 => by exact absurd h4 (by decide)) (fun h4 => ?_)
  refine ev_aload_n_0 (pc := 7) dX8_pot_7 ?_
  refine ev_getR (pc := 8) (r := 120) dX8_pot_8 fl_X8_16 (by decide) (by decide) (by decide) (by decide) ?_
  refine ev_iconst (pc := 11) (v := 0) dX8_pot_11 (by decide) ?_
  refine ev_iload_n_1 (pc := 12) dX8_pot_12 ?_
  refine ev_iaddc (pc := 13) (v := nI p) dX8_pot_13 (nI_zadd p) ?_
  refine ev_iaload' (pc := 14) (j := p) dX8_pot_14 (by decide) (by decide) (show vp_in _ 11 from (vp_in_nI (by omega) (by decide))) (nI_clamp (by omega)) ?_
  refine ev_goto (pc := 15) (tgt := 19) dX8_pot_15 (by decide) ?_
  exact ev_ireturn (pc := 19) dX8_pot_19 rfl rfl (PM.id h (h.potE hp))
set_option maxRecDepth 100000 in
theorem m_X8_pot0 {S : Scr} (p : Int32) (hp : ¬ okP p) (σ : Sto) : Mt S yX8_pot cX8_pot 2 (some .int) 2 [.ref 117, .int p] σ (Is (some (.int (-1))) σ) := by
  refine mt_of (ls := [.ref 117, .int p]) (by decide) rfl (Nat.le_of_ble_eq_true rfl) (by simp [Value.category]) ?_
  refine ev_iload_n_1 (pc := 0) dX8_pot_0 ?_
  refine ev_callS1 (pc := 1) dX8_pot_1 ml_X8_151 (m_X8_isPart _ σ) rfl (by decide) rfl (Nat.le_of_ble_eq_true rfl) ?_
  rw [bI_f hp]
  refine ev_if_eq (pc := 4) (tgt := 18) dX8_pot_4 (by decide) (fun h4 => ?_) (fun h4 => by exact absurd rfl h4)
  refine ev_iconst (pc := 18) (v := (-1)) dX8_pot_18 (by decide) ?_
  exact ev_ireturn (pc := 19) dX8_pot_19 rfl rfl (⟨rfl, rfl⟩)
theorem in_t {a v b : Int32} (h : a ≤ v ∧ v ≤ b) : bI (a ≤ v ∧ v ≤ b) = 1 := bI_t h
theorem in_w : ∀ w, w < 9 → bI ((0 : Int32) ≤ nI w ∧ nI w ≤ 8) = 1 := by decide +kernel
set_option maxRecDepth 100000 in
theorem m_X8_brother_L {S : Scr} {A : Abs} (b : Nat) (hb : b < aN A) (w : Nat) (hw : w < 4) (σ : Sto) (h : RM A σ) : Mt S yX8_brother cX8_brother 3 (some .int) 4 [.ref 117, .int (nI b), .int (nI w)] σ (PM A σ (aL A b w)) := by
  refine mt_of (ls := [.ref 117, .int (nI b), .int (nI w)]) (by decide) rfl (Nat.le_of_ble_eq_true rfl) (by simp [Value.category]) ?_
  have hb6 : b < 6 := Nat.lt_of_lt_of_le hb h.n6
  refine ev_aload_n_0 (pc := 0) dX8_brother_0 ?_
  refine ev_iload_n_1 (pc := 1) dX8_brother_1 ?_
  refine ev_callV1 (pc := 2) dX8_brother_2 ml_X8_154 (m_X8_isBrother _ σ h) (by decide) ⟨_, rfl, rfl⟩ rfl (by decide) rfl (Nat.le_of_ble_eq_true rfl) ?_
  rw [brE h.1 hb]
  refine ev_if_eq (pc := 5) (tgt := 18) dX8_brother_5 (by decide) (fun h5 => by exact absurd h5 (by decide)) (fun h5 => ?_)
  refine ev_iload_n_2 (pc := 8) dX8_brother_8 ?_
  refine ev_iconst (pc := 9) (v := 0) dX8_brother_9 (by decide) ?_
  refine ev_bipush (pc := 10) (v := 8) dX8_brother_10 (by decide) ?_
  refine ev_callS1 (pc := 12) dX8_brother_12 ml_X8_54 (m_X8_in _ _ _ σ) rfl (by decide) rfl (Nat.le_of_ble_eq_true rfl) ?_
  rw [in_w w (by omega)]
  refine ev_if_ne (pc := 15) (tgt := 20) dX8_brother_15 (by decide) (fun h15 => ?_) (fun h15 => by exact absurd h15 (by decide))
  refine ev_aload_n_0 (pc := 20) dX8_brother_20 ?_
  refine ev_callV0 (pc := 21) dX8_brother_21 ml_X8_157 (m_X8_asItIs σ) (by decide) ⟨_, rfl, rfl⟩ rfl (by decide) rfl (Nat.le_of_ble_eq_true rfl) ?_
  refine ev_iload_n_2 (pc := 24) dX8_brother_24 ?_
  refine ev_tableOut (pc := 25) (tgt := 99) dX8_brother_25 (by have := nI_toInt (n := w) (by omega); rw [this]; omega) (by decide) ?_
  refine ev_aload_n_0 (pc := 99) dX8_brother_99 ?_
  refine ev_getR (pc := 100) (r := 118) dX8_brother_100 fl_X8_7 (by decide) (by decide) (by decide) (by decide) ?_
  refine ev_iconst (pc := 103) (v := 4) dX8_brother_103 (by decide) ?_
  refine ev_iload_n_1 (pc := 104) dX8_brother_104 ?_
  refine ev_imulc (pc := 105) (v := nI (4 * b)) dX8_brother_105 (nI_mul 4 b) ?_
  refine ev_iload_n_2 (pc := 106) dX8_brother_106 ?_
  refine ev_iaddc (pc := 107) (v := nI ((4 * b) + w)) dX8_brother_107 (nI_add (4 * b) w) ?_
  refine ev_iaload' (pc := 108) (j := ((4 * b) + w)) dX8_brother_108 (by decide) (by decide) (show vp_in _ 24 from (vp_in_nI (by omega) (by decide))) (nI_clamp (by omega)) ?_
  exact ev_ireturn (pc := 109) dX8_brother_109 rfl rfl (PM.now h (by rw [cpk_ne (by decide)]; exact (h.2.1.2 b hb).1 w hw))
set_option maxRecDepth 100000 in
theorem m_X8_brother_4 {S : Scr} {A : Abs} (b : Nat) (hb : b < aN A) (σ : Sto) (h : RM A σ) : Mt S yX8_brother cX8_brother 3 (some .int) 4 [.ref 117, .int (nI b), .int 4] σ (PM A σ (aB A b)) := by
  refine mt_of (ls := [.ref 117, .int (nI b), .int 4]) (by decide) rfl (Nat.le_of_ble_eq_true rfl) (by simp [Value.category]) ?_
  have hb6 : b < 6 := Nat.lt_of_lt_of_le hb h.n6
  refine ev_aload_n_0 (pc := 0) dX8_brother_0 ?_
  refine ev_iload_n_1 (pc := 1) dX8_brother_1 ?_
  refine ev_callV1 (pc := 2) dX8_brother_2 ml_X8_154 (m_X8_isBrother _ σ h) (by decide) ⟨_, rfl, rfl⟩ rfl (by decide) rfl (Nat.le_of_ble_eq_true rfl) ?_
  rw [brE h.1 hb]
  refine ev_if_eq (pc := 5) (tgt := 18) dX8_brother_5 (by decide) (fun h5 => by exact absurd h5 (by decide)) (fun h5 => ?_)
  refine ev_iload_n_2 (pc := 8) dX8_brother_8 ?_
  refine ev_iconst (pc := 9) (v := 0) dX8_brother_9 (by decide) ?_
  refine ev_bipush (pc := 10) (v := 8) dX8_brother_10 (by decide) ?_
  refine ev_callS1 (pc := 12) dX8_brother_12 ml_X8_54 (m_X8_in _ _ _ σ) rfl (by decide) rfl (Nat.le_of_ble_eq_true rfl) ?_
  rw [show bI ((0 : Int32) ≤ 4 ∧ 4 ≤ (8 : Int32)) = 1 from in_w 4 (by decide)]
  refine ev_if_ne (pc := 15) (tgt := 20) dX8_brother_15 (by decide) (fun h15 => ?_) (fun h15 => by exact absurd h15 (by decide))
  refine ev_aload_n_0 (pc := 20) dX8_brother_20 ?_
  refine ev_callV0 (pc := 21) dX8_brother_21 ml_X8_157 (m_X8_asItIs σ) (by decide) ⟨_, rfl, rfl⟩ rfl (by decide) rfl (Nat.le_of_ble_eq_true rfl) ?_
  refine ev_iload_n_2 (pc := 24) dX8_brother_24 ?_
  refine ev_tableIn (pc := 25) (off := 35) (tgt := 60) dX8_brother_25 (by decide) (by decide) (by decide) (by decide) ?_
  refine ev_aload_n_0 (pc := 60) dX8_brother_60 ?_
  refine ev_getR (pc := 61) (r := 119) dX8_brother_61 fl_X8_13 (by decide) (by decide) (by decide) (by decide) ?_
  refine ev_iload_n_1 (pc := 64) dX8_brother_64 ?_
  refine ev_iaload' (pc := 65) (j := b) dX8_brother_65 (by decide) (by decide) (show vp_in _ 6 from (vp_in_nI (by omega) (by decide))) (nI_clamp (by omega)) ?_
  exact ev_ireturn (pc := 66) dX8_brother_66 rfl rfl (PM.now h (by rw [cpk_ne (by decide)]; exact (h.2.1.2 b hb).2))
set_option maxRecDepth 100000 in
theorem m_X8_brother_5 {S : Scr} {A : Abs} (b : Nat) (hb : b < aN A) (σ : Sto) (h : RM A σ) : Mt S yX8_brother cX8_brother 3 (some .int) 4 [.ref 117, .int (nI b), .int 5] σ (PM A σ ((aC A).2.1 b)) := by
  refine mt_of (ls := [.ref 117, .int (nI b), .int 5]) (by decide) rfl (Nat.le_of_ble_eq_true rfl) (by simp [Value.category]) ?_
  have hb6 : b < 6 := Nat.lt_of_lt_of_le hb h.n6
  refine ev_aload_n_0 (pc := 0) dX8_brother_0 ?_
  refine ev_iload_n_1 (pc := 1) dX8_brother_1 ?_
  refine ev_callV1 (pc := 2) dX8_brother_2 ml_X8_154 (m_X8_isBrother _ σ h) (by decide) ⟨_, rfl, rfl⟩ rfl (by decide) rfl (Nat.le_of_ble_eq_true rfl) ?_
  rw [brE h.1 hb]
  refine ev_if_eq (pc := 5) (tgt := 18) dX8_brother_5 (by decide) (fun h5 => by exact absurd h5 (by decide)) (fun h5 => ?_)
  refine ev_iload_n_2 (pc := 8) dX8_brother_8 ?_
  refine ev_iconst (pc := 9) (v := 0) dX8_brother_9 (by decide) ?_
  refine ev_bipush (pc := 10) (v := 8) dX8_brother_10 (by decide) ?_
  refine ev_callS1 (pc := 12) dX8_brother_12 ml_X8_54 (m_X8_in _ _ _ σ) rfl (by decide) rfl (Nat.le_of_ble_eq_true rfl) ?_
  rw [show bI ((0 : Int32) ≤ 5 ∧ 5 ≤ (8 : Int32)) = 1 from in_w 5 (by decide)]
  refine ev_if_ne (pc := 15) (tgt := 20) dX8_brother_15 (by decide) (fun h15 => ?_) (fun h15 => by exact absurd h15 (by decide))
  refine ev_aload_n_0 (pc := 20) dX8_brother_20 ?_
  refine ev_callV0 (pc := 21) dX8_brother_21 ml_X8_157 (m_X8_asItIs σ) (by decide) ⟨_, rfl, rfl⟩ rfl (by decide) rfl (Nat.le_of_ble_eq_true rfl) ?_
  refine ev_iload_n_2 (pc := 24) dX8_brother_24 ?_
  refine ev_tableIn (pc := 25) (off := 42) (tgt := 67) dX8_brother_25 (by decide) (by decide) (by decide) (by decide) ?_
  refine ev_aload_n_0 (pc := 67) dX8_brother_67 ?_
  refine ev_getR (pc := 68) (r := 120) dX8_brother_68 fl_X8_16 (by decide) (by decide) (by decide) (by decide) ?_
  refine ev_iconst (pc := 71) (v := 4) dX8_brother_71 (by decide) ?_
  refine ev_iaload' (pc := 72) (j := 4) dX8_brother_72 (by decide) (by decide) (show vp_in _ 11 from (vin_c (by decide))) (by decide) ?_
  refine ev_iload_n_1 (pc := 73) dX8_brother_73 ?_
  refine ev_ishr (pc := 74) dX8_brother_74 ?_
  refine ev_iconst (pc := 75) (v := 1) dX8_brother_75 (by decide) ?_
  refine ev_iand (pc := 76) dX8_brother_76 ?_
  exact ev_ireturn (pc := 77) dX8_brother_77 rfl rfl (PM.now h (by rw [cpk_ne (by decide), h.coldE]; exact cld_bit h.c01 hb6))
set_option maxRecDepth 100000 in
theorem m_X8_brother_6 {S : Scr} {A : Abs} (b : Nat) (hb : b < aN A) (σ : Sto) (h : RM A σ) : Mt S yX8_brother cX8_brother 3 (some .int) 4 [.ref 117, .int (nI b), .int 6] σ (PM A σ (mienA A b)) := by
  refine mt_of (ls := [.ref 117, .int (nI b), .int 6]) (by decide) rfl (Nat.le_of_ble_eq_true rfl) (by simp [Value.category]) ?_
  have hb6 : b < 6 := Nat.lt_of_lt_of_le hb h.n6
  refine ev_aload_n_0 (pc := 0) dX8_brother_0 ?_
  refine ev_iload_n_1 (pc := 1) dX8_brother_1 ?_
  refine ev_callV1 (pc := 2) dX8_brother_2 ml_X8_154 (m_X8_isBrother _ σ h) (by decide) ⟨_, rfl, rfl⟩ rfl (by decide) rfl (Nat.le_of_ble_eq_true rfl) ?_
  rw [brE h.1 hb]
  refine ev_if_eq (pc := 5) (tgt := 18) dX8_brother_5 (by decide) (fun h5 => by exact absurd h5 (by decide)) (fun h5 => ?_)
  refine ev_iload_n_2 (pc := 8) dX8_brother_8 ?_
  refine ev_iconst (pc := 9) (v := 0) dX8_brother_9 (by decide) ?_
  refine ev_bipush (pc := 10) (v := 8) dX8_brother_10 (by decide) ?_
  refine ev_callS1 (pc := 12) dX8_brother_12 ml_X8_54 (m_X8_in _ _ _ σ) rfl (by decide) rfl (Nat.le_of_ble_eq_true rfl) ?_
  rw [show bI ((0 : Int32) ≤ 6 ∧ 6 ≤ (8 : Int32)) = 1 from in_w 6 (by decide)]
  refine ev_if_ne (pc := 15) (tgt := 20) dX8_brother_15 (by decide) (fun h15 => ?_) (fun h15 => by exact absurd h15 (by decide))
  refine ev_aload_n_0 (pc := 20) dX8_brother_20 ?_
  refine ev_callV0 (pc := 21) dX8_brother_21 ml_X8_157 (m_X8_asItIs σ) (by decide) ⟨_, rfl, rfl⟩ rfl (by decide) rfl (Nat.le_of_ble_eq_true rfl) ?_
  refine ev_iload_n_2 (pc := 24) dX8_brother_24 ?_
  refine ev_tableIn (pc := 25) (off := 53) (tgt := 78) dX8_brother_25 (by decide) (by decide) (by decide) (by decide) ?_
  refine ev_aload_n_0 (pc := 78) dX8_brother_78 ?_
  refine ev_iload_n_1 (pc := 79) dX8_brother_79 ?_
  refine ev_callV1 (pc := 80) dX8_brother_80 ml_X8_141 (m_X8_mien b hb _ h.nwR) (by decide) ⟨_, rfl, rfl⟩ rfl (by decide) rfl (Nat.le_of_ble_eq_true rfl) ?_
  exact ev_ireturn (pc := 83) dX8_brother_83 rfl rfl (PM.now h (rfl))
set_option maxRecDepth 100000 in
theorem m_X8_brother_7 {S : Scr} {A : Abs} (b : Nat) (hb : b < aN A) (σ : Sto) (h : RM A σ) : Mt S yX8_brother cX8_brother 3 (some .int) 4 [.ref 117, .int (nI b), .int 7] σ (PM A σ (mindA A b)) := by
  refine mt_of (ls := [.ref 117, .int (nI b), .int 7]) (by decide) rfl (Nat.le_of_ble_eq_true rfl) (by simp [Value.category]) ?_
  have hb6 : b < 6 := Nat.lt_of_lt_of_le hb h.n6
  refine ev_aload_n_0 (pc := 0) dX8_brother_0 ?_
  refine ev_iload_n_1 (pc := 1) dX8_brother_1 ?_
  refine ev_callV1 (pc := 2) dX8_brother_2 ml_X8_154 (m_X8_isBrother _ σ h) (by decide) ⟨_, rfl, rfl⟩ rfl (by decide) rfl (Nat.le_of_ble_eq_true rfl) ?_
  rw [brE h.1 hb]
  refine ev_if_eq (pc := 5) (tgt := 18) dX8_brother_5 (by decide) (fun h5 => by exact absurd h5 (by decide)) (fun h5 => ?_)
  refine ev_iload_n_2 (pc := 8) dX8_brother_8 ?_
  refine ev_iconst (pc := 9) (v := 0) dX8_brother_9 (by decide) ?_
  refine ev_bipush (pc := 10) (v := 8) dX8_brother_10 (by decide) ?_
  refine ev_callS1 (pc := 12) dX8_brother_12 ml_X8_54 (m_X8_in _ _ _ σ) rfl (by decide) rfl (Nat.le_of_ble_eq_true rfl) ?_
  rw [show bI ((0 : Int32) ≤ 7 ∧ 7 ≤ (8 : Int32)) = 1 from in_w 7 (by decide)]
  refine ev_if_ne (pc := 15) (tgt := 20) dX8_brother_15 (by decide) (fun h15 => ?_) (fun h15 => by exact absurd h15 (by decide))
  refine ev_aload_n_0 (pc := 20) dX8_brother_20 ?_
  refine ev_callV0 (pc := 21) dX8_brother_21 ml_X8_157 (m_X8_asItIs σ) (by decide) ⟨_, rfl, rfl⟩ rfl (by decide) rfl (Nat.le_of_ble_eq_true rfl) ?_
  refine ev_iload_n_2 (pc := 24) dX8_brother_24 ?_
  refine ev_tableIn (pc := 25) (off := 59) (tgt := 84) dX8_brother_25 (by decide) (by decide) (by decide) (by decide) ?_
  refine ev_aload_n_0 (pc := 84) dX8_brother_84 ?_
  refine ev_iload_n_1 (pc := 85) dX8_brother_85 ?_
  refine ev_callV1 (pc := 86) dX8_brother_86 ml_X8_144 (m_X8_mind b hb _ h.nwR) (by decide) ⟨_, rfl, rfl⟩ rfl (by decide) rfl (Nat.le_of_ble_eq_true rfl) ?_
  exact ev_ireturn (pc := 89) dX8_brother_89 rfl rfl (PM.now h (rfl))
set_option maxRecDepth 100000 in
theorem m_X8_brother_8 {S : Scr} {A : Abs} (b : Nat) (hb : b < aN A) (σ : Sto) (h : RM A σ) : Mt S yX8_brother cX8_brother 3 (some .int) 4 [.ref 117, .int (nI b), .int 8] σ (PM A σ ((aC A).2.2 b)) := by
  refine mt_of (ls := [.ref 117, .int (nI b), .int 8]) (by decide) rfl (Nat.le_of_ble_eq_true rfl) (by simp [Value.category]) ?_
  have hb6 : b < 6 := Nat.lt_of_lt_of_le hb h.n6
  refine ev_aload_n_0 (pc := 0) dX8_brother_0 ?_
  refine ev_iload_n_1 (pc := 1) dX8_brother_1 ?_
  refine ev_callV1 (pc := 2) dX8_brother_2 ml_X8_154 (m_X8_isBrother _ σ h) (by decide) ⟨_, rfl, rfl⟩ rfl (by decide) rfl (Nat.le_of_ble_eq_true rfl) ?_
  rw [brE h.1 hb]
  refine ev_if_eq (pc := 5) (tgt := 18) dX8_brother_5 (by decide) (fun h5 => by exact absurd h5 (by decide)) (fun h5 => ?_)
  refine ev_iload_n_2 (pc := 8) dX8_brother_8 ?_
  refine ev_iconst (pc := 9) (v := 0) dX8_brother_9 (by decide) ?_
  refine ev_bipush (pc := 10) (v := 8) dX8_brother_10 (by decide) ?_
  refine ev_callS1 (pc := 12) dX8_brother_12 ml_X8_54 (m_X8_in _ _ _ σ) rfl (by decide) rfl (Nat.le_of_ble_eq_true rfl) ?_
  rw [show bI ((0 : Int32) ≤ 8 ∧ 8 ≤ (8 : Int32)) = 1 from in_w 8 (by decide)]
  refine ev_if_ne (pc := 15) (tgt := 20) dX8_brother_15 (by decide) (fun h15 => ?_) (fun h15 => by exact absurd h15 (by decide))
  refine ev_aload_n_0 (pc := 20) dX8_brother_20 ?_
  refine ev_callV0 (pc := 21) dX8_brother_21 ml_X8_157 (m_X8_asItIs σ) (by decide) ⟨_, rfl, rfl⟩ rfl (by decide) rfl (Nat.le_of_ble_eq_true rfl) ?_
  refine ev_iload_n_2 (pc := 24) dX8_brother_24 ?_
  refine ev_tableIn (pc := 25) (off := 65) (tgt := 90) dX8_brother_25 (by decide) (by decide) (by decide) (by decide) ?_
  refine ev_aload_n_0 (pc := 90) dX8_brother_90 ?_
  refine ev_getR (pc := 91) (r := 120) dX8_brother_91 fl_X8_16 (by decide) (by decide) (by decide) (by decide) ?_
  refine ev_iconst (pc := 94) (v := 5) dX8_brother_94 (by decide) ?_
  refine ev_iload_n_1 (pc := 95) dX8_brother_95 ?_
  refine ev_iaddc (pc := 96) (v := nI (5 + b)) dX8_brother_96 (nI_add 5 b) ?_
  refine ev_iaload' (pc := 97) (j := (5 + b)) dX8_brother_97 (by decide) (by decide) (show vp_in _ 11 from (vp_in_nI (by omega) (by decide))) (nI_clamp (by omega)) ?_
  exact ev_ireturn (pc := 98) dX8_brother_98 rfl rfl (PM.now h (by rw [cpk_ne (by decide)]; exact h.shownE hb))
set_option maxRecDepth 100000 in
theorem m_X8_brother0 {S : Scr} {A : Abs} (b w : Int32) (hb : ¬ (okB A b ∧ ¬ w < 0 ∧ w ≤ 8)) (σ : Sto) (h : RM A σ) : Mt S yX8_brother cX8_brother 3 (some .int) 4 [.ref 117, .int b, .int w] σ (Is (some (.int (-1))) σ) := by
  refine mt_of (ls := [.ref 117, .int b, .int w]) (by decide) rfl (Nat.le_of_ble_eq_true rfl) (by simp [Value.category]) ?_
  refine ev_aload_n_0 (pc := 0) dX8_brother_0 ?_
  refine ev_iload_n_1 (pc := 1) dX8_brother_1 ?_
  refine ev_callV1 (pc := 2) dX8_brother_2 ml_X8_154 (m_X8_isBrother _ σ h) (by decide) ⟨_, rfl, rfl⟩ rfl (by decide) rfl (Nat.le_of_ble_eq_true rfl) ?_
  refine ev_if_eq (pc := 5) (tgt := 18) dX8_brother_5 (by decide) (fun h5 => ?_) (fun h5 => ?_)
  · skip
    refine ev_iconst (pc := 18) (v := (-1)) dX8_brother_18 (by decide) ?_
    exact ev_ireturn (pc := 19) dX8_brother_19 rfl rfl (⟨rfl, rfl⟩)
  · skip
    refine ev_iload_n_2 (pc := 8) dX8_brother_8 ?_
    refine ev_iconst (pc := 9) (v := 0) dX8_brother_9 (by decide) ?_
    refine ev_bipush (pc := 10) (v := 8) dX8_brother_10 (by decide) ?_
    refine ev_callS1 (pc := 12) dX8_brother_12 ml_X8_54 (m_X8_in _ _ _ σ) rfl (by decide) rfl (Nat.le_of_ble_eq_true rfl) ?_
    refine ev_if_ne (pc := 15) (tgt := 20) dX8_brother_15 (by decide) (fun h15 => ?_) (fun h15 => ?_)
    · skip
      exact absurd ⟨Decidable.not_not.mp (fun z => h5 (bI_f z)), Int32.not_lt.mpr (Decidable.not_not.mp (fun z => h15 (bI_f z))).1, (Decidable.not_not.mp (fun z => h15 (bI_f z))).2⟩ hb
    · skip
      refine ev_iconst (pc := 18) (v := (-1)) dX8_brother_18 (by decide) ?_
      exact ev_ireturn (pc := 19) dX8_brother_19 rfl rfl (⟨rfl, rfl⟩)
set_option maxRecDepth 100000 in
theorem m_X8_off {S : Scr} {A : Abs} (b : Nat) (hb : b < aN A) (p : Nat) (hp : p < 4) (σ : Sto) (h : RM A σ) : Mt S yX8_off cX8_off 3 (some .int) 3 [.ref 117, .int (nI b), .int (nI p)] σ (PM A σ (offD (aL A b) (aC A).1 ((aC A).2.1 b) p)) := by
  refine mt_of (ls := [.ref 117, .int (nI b), .int (nI p)]) (by decide) rfl (Nat.le_of_ble_eq_true rfl) (by simp [Value.category]) ?_
  have hb6 : b < 6 := Nat.lt_of_lt_of_le hb h.n6
  have e4 : (nowW σ).1 120 4 = cldD (aC A).2.1 := by rw [cpk_ne (by decide)]; exact h.coldE
  refine ev_aload_n_0 (pc := 0) dX8_off_0 ?_
  refine ev_iload_n_1 (pc := 1) dX8_off_1 ?_
  refine ev_callV1 (pc := 2) dX8_off_2 ml_X8_154 (m_X8_isBrother _ σ h) (by decide) ⟨_, rfl, rfl⟩ rfl (by decide) rfl (Nat.le_of_ble_eq_true rfl) ?_
  rw [brE h.1 hb]
  refine ev_if_eq (pc := 5) (tgt := 15) dX8_off_5 (by decide) (fun h5 => by exact absurd h5 (by decide)) (fun h5 => ?_)
  refine ev_iload_n_2 (pc := 8) dX8_off_8 ?_
  refine ev_callS1 (pc := 9) dX8_off_9 ml_X8_151 (m_X8_isPart _ σ) rfl (by decide) rfl (Nat.le_of_ble_eq_true rfl) ?_
  rw [bI_t (okP_nI p hp)]
  refine ev_if_ne (pc := 12) (tgt := 18) dX8_off_12 (by decide) (fun h12 => ?_) (fun h12 => by exact absurd h12 (by decide))
  refine ev_aload_n_0 (pc := 18) dX8_off_18 ?_
  refine ev_callV0 (pc := 19) dX8_off_19 ml_X8_157 (m_X8_asItIs σ) (by decide) ⟨_, rfl, rfl⟩ rfl (by decide) rfl (Nat.le_of_ble_eq_true rfl) ?_
  refine ev_aload_n_0 (pc := 22) dX8_off_22 ?_
  refine ev_iload_n_1 (pc := 23) dX8_off_23 ?_
  refine ev_iload_n_2 (pc := 24) dX8_off_24 ?_
  refine ev_aload_n_0 (pc := 25) dX8_off_25 ?_
  refine ev_getR (pc := 26) (r := 120) dX8_off_26 fl_X8_16 (by decide) (by decide) (by decide) (by decide) ?_
  refine ev_iconst (pc := 29) (v := 4) dX8_off_29 (by decide) ?_
  refine ev_iaload' (pc := 30) (j := 4) dX8_off_30 (by decide) (by decide) (show vp_in _ 11 from (vin_c (by decide))) (by decide) ?_
  rw [e4]
  refine ev_iload_n_1 (pc := 31) dX8_off_31 ?_
  refine ev_callS1 (pc := 32) dX8_off_32 ml_X8_133 (m_X8_has _ b _) rfl (by decide) rfl (Nat.le_of_ble_eq_true rfl) ?_
  rw [cld_has h.c01 hb6]
  refine ev_callV1 (pc := 35) dX8_off_35 ml_X8_127 (m_X8_offOf b hb6 p hp _ (h.c01 b hb6) _) (by decide) ⟨_, rfl, rfl⟩ rfl (by decide) rfl (Nat.le_of_ble_eq_true rfl) ?_
  exact ev_ireturn (pc := 38) dX8_off_38 rfl rfl (PM.now h (by show offD _ _ _ _ = _; unfold offD; rw [h.nwR.potE hp]; show _ - (nowW σ).1 118 (4 * b + p) = _; rw [(h.nwR.2.1.2 b hb).1 p hp]))
set_option maxRecDepth 100000 in
theorem m_X8_off0 {S : Scr} {A : Abs} (b p : Int32) (hb : ¬ (okB A b ∧ okP p)) (σ : Sto) (h : RM A σ) : Mt S yX8_off cX8_off 3 (some .int) 3 [.ref 117, .int b, .int p] σ (Is (some (.int (-1000000))) σ) := by
  refine mt_of (ls := [.ref 117, .int b, .int p]) (by decide) rfl (Nat.le_of_ble_eq_true rfl) (by simp [Value.category]) ?_
  refine ev_aload_n_0 (pc := 0) dX8_off_0 ?_
  refine ev_iload_n_1 (pc := 1) dX8_off_1 ?_
  refine ev_callV1 (pc := 2) dX8_off_2 ml_X8_154 (m_X8_isBrother _ σ h) (by decide) ⟨_, rfl, rfl⟩ rfl (by decide) rfl (Nat.le_of_ble_eq_true rfl) ?_
  refine ev_if_eq (pc := 5) (tgt := 15) dX8_off_5 (by decide) (fun h5 => ?_) (fun h5 => ?_)
  · skip
    refine ev_ldc (pc := 15) dX8_off_15 k_X8_160 ?_
    exact ev_ireturn (pc := 17) dX8_off_17 rfl rfl (⟨rfl, rfl⟩)
  · skip
    refine ev_iload_n_2 (pc := 8) dX8_off_8 ?_
    refine ev_callS1 (pc := 9) dX8_off_9 ml_X8_151 (m_X8_isPart _ σ) rfl (by decide) rfl (Nat.le_of_ble_eq_true rfl) ?_
    refine ev_if_ne (pc := 12) (tgt := 18) dX8_off_12 (by decide) (fun h12 => ?_) (fun h12 => ?_)
    · skip
      exact absurd ⟨Decidable.not_not.mp (fun z => h5 (bI_f z)), Decidable.not_not.mp (fun z => h12 (bI_f z))⟩ hb
    · skip
      refine ev_ldc (pc := 15) dX8_off_15 k_X8_160 ?_
      exact ev_ireturn (pc := 17) dX8_off_17 rfl rfl (⟨rfl, rfl⟩)
set_option maxRecDepth 100000 in
theorem m_X8_now {S : Scr} {A : Abs} (w : Int32) (σ : Sto) (h : RM A σ) : Mt S yX8_now cX8_now 2 (some .int) 5 [.ref 117, .int w] σ (PM A σ (nowA A w)) := by
  refine mt_of (ls := [.ref 117, .int w]) (by decide) rfl (Nat.le_of_ble_eq_true rfl) (by simp [Value.category]) ?_
  refine ev_aload_n_0 (pc := 0) dX8_now_0 ?_
  refine ev_callV0 (pc := 1) dX8_now_1 ml_X8_157 (m_X8_asItIs σ) (by decide) ⟨_, rfl, rfl⟩ rfl (by decide) rfl (Nat.le_of_ble_eq_true rfl) ?_
  refine ev_iload_n_1 (pc := 4) dX8_now_4 ?_
  by_cases hs5_0 : w = 0
  · refine ev_tableIn (off := 35) (tgt := 40) dX8_now_5 (by rw [hs5_0]; decide) (by rw [hs5_0]; decide) (by rw [hs5_0]; decide) (by decide) ?_
    refine ev_aload_n_0 (pc := 40) dX8_now_40 ?_
    refine ev_callV1 (pc := 41) dX8_now_41 ml_X8_161 (m_X8_calm _ h.nwR) (by decide) ⟨_, rfl, rfl⟩ rfl (by decide) rfl (Nat.le_of_ble_eq_true rfl) ?_
    exact ev_ireturn (pc := 44) dX8_now_44 rfl rfl (PM.now h (by simp only [nowA, hs5_0]; rfl))
  by_cases hs5_1 : w = 1
  · refine ev_tableIn (off := 40) (tgt := 45) dX8_now_5 (by rw [hs5_1]; decide) (by rw [hs5_1]; decide) (by rw [hs5_1]; decide) (by decide) ?_
    refine ev_aload_n_0 (pc := 45) dX8_now_45 ?_
    refine ev_getR (pc := 46) (r := 120) dX8_now_46 fl_X8_16 (by decide) (by decide) (by decide) (by decide) ?_
    refine ev_iconst (pc := 49) (v := 4) dX8_now_49 (by decide) ?_
    refine ev_iaload' (pc := 50) (j := 4) dX8_now_50 (by decide) (by decide) (show vp_in _ 11 from (vin_c (by decide))) (by decide) ?_
    exact ev_ireturn (pc := 51) dX8_now_51 rfl rfl (PM.now h (by rw [cpk_ne (by decide), h.coldE]; simp only [nowA, hs5_1]; rfl))
  by_cases hs5_2 : w = 2
  · refine ev_tableIn (off := 47) (tgt := 52) dX8_now_5 (by rw [hs5_2]; decide) (by rw [hs5_2]; decide) (by rw [hs5_2]; decide) (by decide) ?_
    refine ev_aload_n_0 (pc := 52) dX8_now_52 ?_
    refine ev_callV1 (pc := 53) dX8_now_53 ml_X8_147 (m_X8_inPot _ h.nwR) (by decide) ⟨_, rfl, rfl⟩ rfl (by decide) rfl (Nat.le_of_ble_eq_true rfl) ?_
    exact ev_ireturn (pc := 56) dX8_now_56 rfl rfl (PM.now h (by simp only [nowA, hs5_2]; rfl))
  by_cases hs5_3 : w = 3
  · refine ev_tableIn (off := 52) (tgt := 57) dX8_now_5 (by rw [hs5_3]; decide) (by rw [hs5_3]; decide) (by rw [hs5_3]; decide) (by decide) ?_
    refine ev_aload_n_0 (pc := 57) dX8_now_57 ?_
    refine ev_callV1 (pc := 58) dX8_now_58 ml_X8_164 (m_X8_mindAll _ h.nwR) (by decide) ⟨_, rfl, rfl⟩ rfl (by decide) rfl (Nat.le_of_ble_eq_true rfl) ?_
    exact ev_ireturn (pc := 61) dX8_now_61 rfl rfl (PM.now h (by simp only [nowA, hs5_3]; rfl))
  by_cases hs5_4 : w = 4
  · refine ev_tableIn (off := 57) (tgt := 62) dX8_now_5 (by rw [hs5_4]; decide) (by rw [hs5_4]; decide) (by rw [hs5_4]; decide) (by decide) ?_
    refine ev_aload_n_0 (pc := 62) dX8_now_62 ?_
    refine ev_getI (pc := 63) dX8_now_63 fl_X8_113 (by decide) (by decide) (by decide) ?_
    exact ev_ireturn (pc := 66) dX8_now_66 rfl rfl (PM.now h (by rw [cpk_ne (by decide), h.known]; simp only [nowA, hs5_4]; rfl))
  refine ev_tableOut (pc := 5) (tgt := 67) dX8_now_5 (by have a0 := lv_neT hs5_0 (show ((0 : Int32)).toInt = 0 from rfl); have a1 := lv_neT hs5_1 (show ((1 : Int32)).toInt = 1 from rfl); have a2 := lv_neT hs5_2 (show ((2 : Int32)).toInt = 2 from rfl); have a3 := lv_neT hs5_3 (show ((3 : Int32)).toInt = 3 from rfl); have a4 := lv_neT hs5_4 (show ((4 : Int32)).toInt = 4 from rfl); omega) (by decide) ?_
  refine ev_iconst (pc := 67) (v := (-1)) dX8_now_67 (by decide) ?_
  exact ev_ireturn (pc := 68) dX8_now_68 rfl rfl (PM.now h (by simp only [nowA, hs5_0, hs5_1, hs5_2, hs5_3, hs5_4, if_false]))
set_option maxRecDepth 100000 in
theorem m_X8_count {S : Scr} {A : Abs} (w : Int32) (σ : Sto) (h : RM A σ) : Mt S yX8_count cX8_count 2 (some .int) 0 [.ref 117, .int w] σ (PM A σ (cntA A w)) := by
  refine mt_of (ls := [.ref 117, .int w]) (by decide) rfl (Nat.le_of_ble_eq_true rfl) (by simp [Value.category]) ?_
  refine ev_iload_n_1 (pc := 0) dX8_count_0 ?_
  refine ev_if_ne (pc := 1) (tgt := 11) dX8_count_1 (by decide) (fun h1 => ?_) (fun h1 => ?_)
  · skip
    refine ev_iload_n_1 (pc := 11) dX8_count_11 ?_
    refine ev_iconst (pc := 12) (v := 1) dX8_count_12 (by decide) ?_
    refine ev_icmp_ne (pc := 13) (tgt := 23) dX8_count_13 (by decide) (fun h13 => ?_) (fun h13 => ?_)
    · skip
      refine ev_iload_n_1 (pc := 23) dX8_count_23 ?_
      refine ev_iconst (pc := 24) (v := 2) dX8_count_24 (by decide) ?_
      refine ev_icmp_ne (pc := 25) (tgt := 35) dX8_count_25 (by decide) (fun h25 => ?_) (fun h25 => ?_)
      · skip
        refine ev_iconst (pc := 35) (v := (-1)) dX8_count_35 (by decide) ?_
        exact ev_ireturn (pc := 36) dX8_count_36 rfl rfl (PM.id h (by rw [cntA, if_neg h1, if_neg h13, if_neg h25]))
      · skip
        refine ev_aload_n_0 (pc := 28) dX8_count_28 ?_
        refine ev_getI (pc := 29) dX8_count_29 fl_X8_58 (by decide) (by decide) (by decide) ?_
        refine ev_goto (pc := 32) (tgt := 36) dX8_count_32 (by decide) ?_
        exact ev_ireturn (pc := 36) dX8_count_36 rfl rfl (PM.id h (by rw [cntA, if_neg h1, if_neg h13, if_pos h25]; exact h.texted))
    · skip
      refine ev_aload_n_0 (pc := 16) dX8_count_16 ?_
      refine ev_getI (pc := 17) dX8_count_17 fl_X8_116 (by decide) (by decide) (by decide) ?_
      refine ev_goto (pc := 20) (tgt := 36) dX8_count_20 (by decide) ?_
      exact ev_ireturn (pc := 36) dX8_count_36 rfl rfl (PM.id h (by rw [cntA, if_neg h1, if_pos h13]; exact h.told))
  · skip
    refine ev_aload_n_0 (pc := 4) dX8_count_4 ?_
    refine ev_getI (pc := 5) dX8_count_5 fl_X8_50 (by decide) (by decide) (by decide) ?_
    refine ev_goto (pc := 8) (tgt := 36) dX8_count_8 (by decide) ?_
    exact ev_ireturn (pc := 36) dX8_count_36 rfl rfl (PM.id h (by rw [cntA, if_pos h1]; exact h.m))
set_option maxRecDepth 100000 in
theorem m_X8_trace {S : Scr} {A : Abs} (σ : Sto) (h : RM A σ) : Mt S yX8_trace cX8_trace 1 (some .long) 0 [.ref 117] σ (fun r τ => r = some (.long (aR A)) ∧ RM A τ ∧ FrM σ τ) := by
  refine mt_of (ls := [.ref 117]) (by decide) rfl (Nat.le_of_ble_eq_true rfl) (by simp [Value.category]) ?_
  refine ev_aload_n_0 (pc := 0) dX8_trace_0 ?_
  refine ev_getL (pc := 1) dX8_trace_1 fl_X8_215 (by decide) (by decide) (by decide) ?_
  exact ev_lreturn (pc := 4) dX8_trace_4 rfl (⟨by rw [h.2.2.2.2.2.2.2], h, FrM.rf σ⟩)
