/-! ===== the reference: calls, 1 ===== -/
abbrev PM (A' : Abs) (σ : Sto) (v : Int32) : Option Value → Sto → Prop := fun r τ => r = some (.int v) ∧ RM A' τ ∧ FrM σ τ
abbrev RW (A : Abs) (σ : Sto) : Prop := brM A σ ∧ mrow σ 120 0 (aN A) (aC A) ∧ pastM A σ ∧ imgM A σ ∧ seenM A σ ∧ txM A σ ∧ σ.2 117 = aR A
theorem PM.id {A : Abs} {σ : Sto} (h : RM A σ) {v w : Int32} (e : v = w) : PM A σ w (some (.int v)) σ := ⟨by rw [e], h, FrM.rf σ⟩
theorem PM.now {A : Abs} {σ : Sto} (h : RM A σ) {v w : Int32} (e : v = w) : PM A σ w (some (.int v)) (nowW σ) := ⟨by rw [e], h.mv (mls_now σ), (mls_now σ).fr⟩
theorem RM.nwR {A : Abs} {σ : Sto} (h : RM A σ) : nwR A (nowW σ) (aC A) := ⟨h.n6, (h.mv (mls_now σ)).2.1, h.now, h.1.2.2.1⟩
theorem RM.known {A : Abs} {σ : Sto} (h : RM A σ) : σ.1 117 5 = nI (aP A).length := h.2.2.2.1.1
theorem RM.told {A : Abs} {σ : Sto} (h : RM A σ) : σ.1 117 8 = nI (aS A).length := h.2.2.2.2.2.1.1
theorem RM.texted {A : Abs} {σ : Sto} (h : RM A σ) : σ.1 117 13 = nI (aT A).1 := h.2.2.2.2.2.2.1.1
theorem RM.potE {A : Abs} {σ : Sto} (h : RM A σ) {p : Nat} (hp : p < 4) : σ.1 120 p = (aC A).1 p := by have := h.2.2.1.1 p hp; rw [Nat.zero_add] at this; exact this
theorem RM.coldE {A : Abs} {σ : Sto} (h : RM A σ) : σ.1 120 4 = cldD (aC A).2.1 := h.2.2.1.2.1
theorem RM.shownE {A : Abs} {σ : Sto} (h : RM A σ) {b : Nat} (hb : b < aN A) : σ.1 120 (5 + b) = (aC A).2.2 b := by have := h.2.2.1.2.2 b hb; rw [Nat.zero_add] at this; exact this
theorem RM.c01 {A : Abs} {σ : Sto} (h : RM A σ) : ∀ b, b < 6 → (aC A).2.1 b = 0 ∨ (aC A).2.1 b = 1 := h.1.2.2.1.2
theorem RM.len10 {A : Abs} {σ : Sto} (h : RM A σ) : (aP A).length ≤ 10 := h.1.2.2.2.2.2.2.1
theorem brE {A : Abs} (h : AI A) {b : Nat} (hb : b < aN A) : bI (okB A (nI b)) = 1 := bI_t (okB_nI hb h.1)
/-- sets of brothers by their number -/
theorem or_bit : ∀ m, m < 64 → ∀ b, b < 6 → m < 2 ^ b → nI m ||| 1 <<< (nI b &&& 31) = nI (m + 2 ^ b) := by decide +kernel
theorem calm_num (P : Nat → Prop) [∀ b, Decidable (P b)] : ∀ n, n ≤ 6 → ∃ m, m < 2 ^ n ∧ itN (fun b (a : Int32) => if P b then a ||| 1 <<< (nI b &&& 31) else a) n 0 = nI m := by
  intro n
  induction n with
  | zero => intro _; exact ⟨0, by decide, rfl⟩
  | succ n ih =>
    intro hn
    obtain ⟨m, hm, e⟩ := ih (by omega)
    have h2 : (2 : Nat) ^ (n + 1) = 2 * 2 ^ n := by rw [Nat.pow_succ, Nat.mul_comm]
    have h3 : (2 : Nat) ^ n ≤ 32 := (by decide : ∀ n, n ≤ 5 → (2 : Nat) ^ n ≤ 32) n (by omega)
    show ∃ m, _ ∧ (if P n then itN (fun b (a : Int32) => if P b then a ||| 1 <<< (nI b &&& 31) else a) n 0 ||| 1 <<< (nI n &&& 31) else itN (fun b (a : Int32) => if P b then a ||| 1 <<< (nI b &&& 31) else a) n 0) = nI m
    rw [e]
    by_cases q : P n
    · exact ⟨m + 2 ^ n, by omega, by rw [if_pos q, or_bit m (by omega) n (by omega) hm]⟩
    · exact ⟨m, by omega, by rw [if_neg q]⟩
theorem bt_bc : ∀ m, m < 64 → btD (nI m) = bcD (nI m) := by decide +kernel
theorem calm_lt {A : Abs} (h : aN A ≤ 6) : ∃ m, m < 64 ∧ calmA' A = nI m := by
  obtain ⟨m, hm, e⟩ := calm_num (fun b => mienA A b = 0) (aN A) h
  have h3 : (2 : Nat) ^ aN A ≤ 64 := (by decide : ∀ n, n ≤ 6 → (2 : Nat) ^ n ≤ 64) _ h
  exact ⟨m, by omega, e⟩
theorem bt_calm {A : Abs} (h : aN A ≤ 6) : btD (calmA' A) = bcD (calmA' A) := by
  obtain ⟨m, hm, e⟩ := calm_lt h
  rw [e]; exact bt_bc m hm
theorem cld_val : ∀ m, m < 64 → cldD (fun i => nI (m / 2 ^ i % 2)) = nI m := by decide +kernel
theorem bt_cld {f : Nat → Int32} (h : ∀ b, b < 6 → f b = 0 ∨ f b = 1) : btD (cldD f) = bcD (cldD f) := by
  obtain ⟨m, hm, e⟩ := cld_num h
  rw [cldD_congr e, cld_val m hm]; exact bt_bc m hm
theorem cld_x : ∀ m, m < 64 → ∀ b, b < 6 → cldD (fun i => if i = b then nI (1 - m / 2 ^ b % 2) else nI (m / 2 ^ i % 2)) = nI m ^^^ (1 <<< (nI b &&& 31)) := by decide +kernel
theorem cld_xor {f : Nat → Int32} (h : ∀ b, b < 6 → f b = 0 ∨ f b = 1) {b : Nat} (hb : b < 6) {x : Int32} (hx : x = 0 ∨ x = 1) (hn : ¬ f b = x) : cldD f ^^^ (1 <<< (nI b &&& 31)) = cldD (fun c => if c = b then x else f c) := by
  obtain ⟨m, hm, e⟩ := cld_num h
  have hl : m / 2 ^ b % 2 < 2 := Nat.mod_lt _ (by decide)
  have eb := e b hb
  have ex : x = nI (1 - m / 2 ^ b % 2) := by
    rcases (show m / 2 ^ b % 2 = 0 ∨ m / 2 ^ b % 2 = 1 by omega) with z | z
    · rw [z] at eb ⊢; rcases hx with rfl | rfl; exact absurd eb hn; rfl
    · rw [z] at eb ⊢; rcases hx with rfl | rfl; rfl; exact absurd eb hn
  rw [cldD_congr e, cld_val m hm, ← cld_x m hm b hb]
  refine cldD_congr (fun i hi => ?_)
  by_cases q : i = b
  · rw [if_pos q, if_pos q, ex]
  · rw [if_neg q, if_neg q, e i hi]
set_option maxRecDepth 100000 in
theorem b_X8_calm {S : Scr} {A : Abs} {s : Scn} (b : Nat) (hb : b < aN A) (a : Int32) (σ : Sto) {Q : Option Value → Sto → Prop} (h : nwR A σ s) (K : Ev S RX8 cX8_calm 3 (some .int) 4 4 [.ref 117, .int (if mienD (aL A b) (aB A b) s.1 (s.2.1 b) = 0 then a ||| 1 <<< (nI b &&& 31) else a), .int (nI (b + 1))] [] σ (Q)) : Ev S RX8 cX8_calm 3 (some .int) 4 4 [.ref 117, .int a, .int (nI b)] [] σ (Q) := by
  refine ev_iload_n_2 (pc := 4) dX8_calm_4 ?_
  refine ev_aload_n_0 (pc := 5) dX8_calm_5 ?_
  refine ev_getI (pc := 6) dX8_calm_6 fl_X8_50 (by decide) (by decide) (by decide) ?_
  refine ev_icmp_ge (pc := 9) (tgt := 36) dX8_calm_9 (by decide) (fun h9 => by exact absurd h9 (by rw [h.2.1.1]; exact nI_ge hb (by have := h.1; omega))) (fun h9 => ?_)
  refine ev_iload_n_1 (pc := 12) dX8_calm_12 ?_
  refine ev_aload_n_0 (pc := 13) dX8_calm_13 ?_
  refine ev_iload_n_2 (pc := 14) dX8_calm_14 ?_
  refine ev_callV1 (pc := 15) dX8_calm_15 ml_X8_141 (m_X8_mien b hb σ h) (by decide) ⟨_, rfl, rfl⟩ rfl (by decide) rfl (Nat.le_of_ble_eq_true rfl) ?_
  refine ev_if_ne (pc := 18) (tgt := 27) dX8_calm_18 (by decide) (fun h18 => ?_) (fun h18 => ?_)
  · skip
    refine ev_iconst (pc := 27) (v := 0) dX8_calm_27 (by decide) ?_
    refine ev_ior (pc := 28) dX8_calm_28 ?_
    refine ev_istore_n_1 (pc := 29) dX8_calm_29 (by decide) ?_
    refine ev_iinc_2 (pc := 30) (v := nI (b + 1)) dX8_calm_30 (nI_inc b) (by decide) ?_
    refine ev_goto (pc := 33) (tgt := 4) dX8_calm_33 (by decide) ?_
    exact ev_eq (by first | simp only [h18, ↓reduceIte, Int32.or_zero] | simp only [h18, not_false_eq_true, ↓reduceIte, Int32.or_zero]) rfl rfl K
  · skip
    refine ev_iconst (pc := 21) (v := 1) dX8_calm_21 (by decide) ?_
    refine ev_iload_n_2 (pc := 22) dX8_calm_22 ?_
    refine ev_ishl (pc := 23) dX8_calm_23 ?_
    refine ev_goto (pc := 24) (tgt := 28) dX8_calm_24 (by decide) ?_
    refine ev_ior (pc := 28) dX8_calm_28 ?_
    refine ev_istore_n_1 (pc := 29) dX8_calm_29 (by decide) ?_
    refine ev_iinc_2 (pc := 30) (v := nI (b + 1)) dX8_calm_30 (nI_inc b) (by decide) ?_
    refine ev_goto (pc := 33) (tgt := 4) dX8_calm_33 (by decide) ?_
    exact ev_eq (by first | simp only [h18, ↓reduceIte, Int32.or_zero] | simp only [h18, not_false_eq_true, ↓reduceIte, Int32.or_zero]) rfl rfl K
theorem m_X8_calm {S : Scr} {A : Abs} {s : Scn} (σ : Sto) (h : nwR A σ s) : Mt S yX8_calm cX8_calm 3 (some .int) 4 [.ref 117] σ (Is (some (.int (calmA' (setC A s)))) σ) := by
  refine mt_of (ls := [.ref 117, .null, .null]) (by decide) rfl (Nat.le_of_ble_eq_true rfl) (by simp [Value.category]) ?_
  refine ev_iconst (pc := 0) (v := 0) dX8_calm_0 (by decide) ?_
  refine ev_istore_n_1 (pc := 1) dX8_calm_1 (by decide) ?_
  refine ev_iconst (pc := 2) (v := 0) dX8_calm_2 (by decide) ?_
  refine ev_istore_n_2 (pc := 3) dX8_calm_3 (by decide) ?_
  refine for_up (aN A) (fun b a => Ev S RX8 cX8_calm 3 (some .int) 4 4 [.ref 117, .int a, .int (nI b)] [] σ (Is (some (.int (calmA' (setC A s)))) σ)) (fun b a => if mienD (aL A b) (aB A b) s.1 (s.2.1 b) = 0 then a ||| 1 <<< (nI b &&& 31) else a) (fun b a hb K => b_X8_calm b hb a σ h K) 0 ?_
  refine ev_iload_n_2 (pc := 4) dX8_calm_4 ?_
  refine ev_aload_n_0 (pc := 5) dX8_calm_5 ?_
  refine ev_getI (pc := 6) dX8_calm_6 fl_X8_50 (by decide) (by decide) (by decide) ?_
  refine ev_icmp_ge (pc := 9) (tgt := 36) dX8_calm_9 (by decide) (fun h9 => ?_) (fun h9 => by exact absurd (by rw [h.2.1.1]; exact Int32.le_refl _) h9)
  refine ev_iload_n_1 (pc := 36) dX8_calm_36 ?_
  exact ev_ireturn (pc := 37) dX8_calm_37 rfl rfl (⟨rfl, rfl⟩)
set_option maxRecDepth 100000 in
theorem b_X8_mindAll {S : Scr} {A : Abs} {s : Scn} (b : Nat) (hb : b < aN A) (a : Int32) (σ : Sto) {Q : Option Value → Sto → Prop} (h : nwR A σ s) (K : Ev S RX8 cX8_mindAll 3 (some .int) 3 4 [.ref 117, .int (a + mindD (aL A b) s.1 (s.2.1 b)), .int (nI (b + 1))] [] σ (Q)) : Ev S RX8 cX8_mindAll 3 (some .int) 3 4 [.ref 117, .int a, .int (nI b)] [] σ (Q) := by
  refine ev_iload_n_2 (pc := 4) dX8_mindAll_4 ?_
  refine ev_aload_n_0 (pc := 5) dX8_mindAll_5 ?_
  refine ev_getI (pc := 6) dX8_mindAll_6 fl_X8_50 (by decide) (by decide) (by decide) ?_
  refine ev_icmp_ge (pc := 9) (tgt := 26) dX8_mindAll_9 (by decide) (fun h9 => by exact absurd h9 (by rw [h.2.1.1]; exact nI_ge hb (by have := h.1; omega))) (fun h9 => ?_)
  refine ev_iload_n_1 (pc := 12) dX8_mindAll_12 ?_
  refine ev_aload_n_0 (pc := 13) dX8_mindAll_13 ?_
  refine ev_iload_n_2 (pc := 14) dX8_mindAll_14 ?_
  refine ev_callV1 (pc := 15) dX8_mindAll_15 ml_X8_144 (m_X8_mind b hb σ h) (by decide) ⟨_, rfl, rfl⟩ rfl (by decide) rfl (Nat.le_of_ble_eq_true rfl) ?_
  refine ev_iadd (pc := 18) dX8_mindAll_18 ?_
  refine ev_istore_n_1 (pc := 19) dX8_mindAll_19 (by decide) ?_
  refine ev_iinc_2 (pc := 20) (v := nI (b + 1)) dX8_mindAll_20 (nI_inc b) (by decide) ?_
  refine ev_goto (pc := 23) (tgt := 4) dX8_mindAll_23 (by decide) ?_
  exact K
theorem m_X8_mindAll {S : Scr} {A : Abs} {s : Scn} (σ : Sto) (h : nwR A σ s) : Mt S yX8_mindAll cX8_mindAll 3 (some .int) 3 [.ref 117] σ (Is (some (.int (mindAll (setC A s)))) σ) := by
  refine mt_of (ls := [.ref 117, .null, .null]) (by decide) rfl (Nat.le_of_ble_eq_true rfl) (by simp [Value.category]) ?_
  refine ev_iconst (pc := 0) (v := 0) dX8_mindAll_0 (by decide) ?_
  refine ev_istore_n_1 (pc := 1) dX8_mindAll_1 (by decide) ?_
  refine ev_iconst (pc := 2) (v := 0) dX8_mindAll_2 (by decide) ?_
  refine ev_istore_n_2 (pc := 3) dX8_mindAll_3 (by decide) ?_
  refine for_up (aN A) (fun b a => Ev S RX8 cX8_mindAll 3 (some .int) 3 4 [.ref 117, .int a, .int (nI b)] [] σ (Is (some (.int (mindAll (setC A s)))) σ)) (fun b a => a + mindD (aL A b) s.1 (s.2.1 b)) (fun b a hb K => b_X8_mindAll b hb a σ h K) 0 ?_
  refine ev_iload_n_2 (pc := 4) dX8_mindAll_4 ?_
  refine ev_aload_n_0 (pc := 5) dX8_mindAll_5 ?_
  refine ev_getI (pc := 6) dX8_mindAll_6 fl_X8_50 (by decide) (by decide) (by decide) ?_
  refine ev_icmp_ge (pc := 9) (tgt := 26) dX8_mindAll_9 (by decide) (fun h9 => ?_) (fun h9 => by exact absurd (by rw [h.2.1.1]; exact Int32.le_refl _) h9)
  refine ev_iload_n_1 (pc := 26) dX8_mindAll_26 ?_
  exact ev_ireturn (pc := 27) dX8_mindAll_27 rfl rfl (⟨rfl, rfl⟩)
/-- what deed d makes of a part -/
def dsF (f : Nat → Int32) (d p : Nat) : Int32 := if d = p then f p + 1 else if d = 4 then (if f p ≤ 0 then f p else f p - 1) else f p
def dsK (σ : Sto) (d k : Nat) : Sto := (fun a b => if a = 129 ∧ b < k then dsF (σ.1 129) d b else σ.1 a b, σ.2)
theorem dsK_0 (σ : Sto) (d : Nat) : dsK σ d 0 = σ := by
  refine Prod.ext (funext fun a => funext fun b => ?_) rfl
  unfold dsK
  show (if a = 129 ∧ b < 0 then _ else _) = _
  rw [if_neg (by omega)]
theorem dsK_s (σ : Sto) (d k : Nat) : wr (dsK σ d k) 129 k (dsF (σ.1 129) d k) = dsK σ d (k + 1) := by
  refine Prod.ext (funext fun a => funext fun b => ?_) rfl
  unfold wr dsK
  show (if a = 129 ∧ b = k then _ else if a = 129 ∧ b < k then _ else _) = if a = 129 ∧ b < k + 1 then _ else _
  by_cases e : a = 129
  · by_cases e2 : b = k
    · rw [if_pos ⟨e, e2⟩, if_pos ⟨e, by omega⟩, e2]
    · rw [if_neg (fun z => e2 z.2)]
      by_cases e3 : b < k
      · rw [if_pos ⟨e, e3⟩, if_pos ⟨e, by omega⟩]
      · rw [if_neg (fun z => e3 z.2), if_neg (fun z => e3 (by omega))]
  · rw [if_neg (fun z => e z.1), if_neg (fun z => e z.1), if_neg (fun z => e z.1)]
theorem dsK_ne {σ : Sto} {d k c : Nat} (h : c ≠ 129) : (dsK σ d k).1 c = σ.1 c := by funext b; unfold dsK; simp [h]
theorem dsK_in {σ : Sto} {d k j : Nat} (h : j < k) : (dsK σ d k).1 129 j = dsF (σ.1 129) d j := by unfold dsK; simp [h]
theorem dsK_out {σ : Sto} {d k j : Nat} (h : ¬ j < k) : (dsK σ d k).1 129 j = σ.1 129 j := by unfold dsK; simp [h]
theorem mls_ds (σ : Sto) (d k : Nat) : Mls σ (dsK σ d k) := ⟨rfl, fun c hc => dsK_ne (by omega), fun c h1 h2 => dsK_ne (by omega), fun j _ => by rw [dsK_ne (by decide)]⟩
theorem nI_eqI {a b : Nat} (ha : a < 100) (hb : b < 100) : nI a = nI b ↔ a = b := ⟨fun h => nI_inj h (by omega) (by omega), fun h => by rw [h]⟩
set_option maxRecDepth 100000 in
theorem b_X8_does {S : Scr} (e : Nat) (he : e < 6) (k : Nat) (hk : k < 4) (x : Value) (hx : x = .null ∨ ∃ v, x = .int v) (τ : Sto) {Q : Option Value → Sto → Prop} (K : ∀ x, (x = .null ∨ ∃ v, x = .int v) → Ev S RX8 cX8_does 4 none 0 2 [.ref 117, .int (nI e), .int (nI (k + 1)), x] [] (wr τ 129 k (dsF (τ.1 129) e k)) (Q)) : Ev S RX8 cX8_does 4 none 0 2 [.ref 117, .int (nI e), .int (nI k), x] [] τ (Q) := by
  refine ev_iload_n_2 (pc := 2) dX8_does_2 ?_
  refine ev_iconst (pc := 3) (v := 4) dX8_does_3 (by decide) ?_
  refine ev_icmp_ge (pc := 4) (tgt := 57) dX8_does_4 (by decide) (fun h4 => by exact absurd h4 (nI_ge (a := k) (b := 4) hk (by decide))) (fun h4 => ?_)
  refine ev_aload_n_0 (pc := 7) dX8_does_7 ?_
  refine ev_getR (pc := 8) (r := 129) dX8_does_8 fl_X8_44 (by decide) (by decide) (by decide) (by decide) ?_
  refine ev_iconst (pc := 11) (v := 0) dX8_does_11 (by decide) ?_
  refine ev_iload_n_2 (pc := 12) dX8_does_12 ?_
  refine ev_iaddc (pc := 13) (v := nI k) dX8_does_13 (nI_zadd k) ?_
  refine ev_iaload' (pc := 14) (j := k) dX8_does_14 (by decide) (by decide) (show vp_in _ 11 from (vp_in_nI (by omega) (by decide))) (nI_clamp (by omega)) ?_
  refine ev_istore_n_3 (pc := 15) dX8_does_15 (by decide) ?_
  refine ev_aload_n_0 (pc := 16) dX8_does_16 ?_
  refine ev_getR (pc := 17) (r := 129) dX8_does_17 fl_X8_44 (by decide) (by decide) (by decide) (by decide) ?_
  refine ev_iconst (pc := 20) (v := 0) dX8_does_20 (by decide) ?_
  refine ev_iload_n_2 (pc := 21) dX8_does_21 ?_
  refine ev_iaddc (pc := 22) (v := nI k) dX8_does_22 (nI_zadd k) ?_
  refine ev_iload_n_1 (pc := 23) dX8_does_23 ?_
  refine ev_iload_n_2 (pc := 24) dX8_does_24 ?_
  refine ev_icmp_ne (pc := 25) (tgt := 34) dX8_does_25 (by decide) (fun h25 => ?_) (fun h25 => ?_)
  · skip
    refine ev_iload_n_1 (pc := 34) dX8_does_34 ?_
    refine ev_iconst (pc := 35) (v := 4) dX8_does_35 (by decide) ?_
    refine ev_icmp_ne (pc := 36) (tgt := 49) dX8_does_36 (by decide) (fun h36 => ?_) (fun h36 => ?_)
    · skip
      refine ev_iload_n_3 (pc := 49) dX8_does_49 ?_
      refine ev_iastore' (pc := 50) (j := k) dX8_does_50 (by decide) (by decide) (show vp_in _ 11 from (vp_in_nI (by omega) (by decide))) (nI_clamp (by omega)) ?_
      refine ev_iinc_2 (pc := 51) (v := nI (k + 1)) dX8_does_51 (nI_inc k) (by decide) ?_
      refine ev_goto (pc := 54) (tgt := 2) dX8_does_54 (by decide) ?_
      exact ev_eq rfl rfl (congrArg (wr τ 129 k) (by unfold dsF; rw [if_neg (fun z => h25 (by rw [z])), if_neg (fun z => h36 (by rw [z]; rfl))])) (K _ (Or.inr ⟨_, rfl⟩))
    · skip
      refine ev_iload_n_3 (pc := 39) dX8_does_39 ?_
      refine ev_if_le (pc := 40) (tgt := 49) dX8_does_40 (by decide) (fun h40 => ?_) (fun h40 => ?_)
      · skip
        refine ev_iload_n_3 (pc := 49) dX8_does_49 ?_
        refine ev_iastore' (pc := 50) (j := k) dX8_does_50 (by decide) (by decide) (show vp_in _ 11 from (vp_in_nI (by omega) (by decide))) (nI_clamp (by omega)) ?_
        refine ev_iinc_2 (pc := 51) (v := nI (k + 1)) dX8_does_51 (nI_inc k) (by decide) ?_
        refine ev_goto (pc := 54) (tgt := 2) dX8_does_54 (by decide) ?_
        exact ev_eq rfl rfl (congrArg (wr τ 129 k) (by unfold dsF; rw [if_neg (fun z => h25 (by rw [z])), if_pos (nI_inj (b := 4) h36 (by omega) (by omega)), if_pos h40])) (K _ (Or.inr ⟨_, rfl⟩))
      · skip
        refine ev_iload_n_3 (pc := 43) dX8_does_43 ?_
        refine ev_iconst (pc := 44) (v := 1) dX8_does_44 (by decide) ?_
        refine ev_isub (pc := 45) dX8_does_45 ?_
        refine ev_goto (pc := 46) (tgt := 50) dX8_does_46 (by decide) ?_
        refine ev_iastore' (pc := 50) (j := k) dX8_does_50 (by decide) (by decide) (show vp_in _ 11 from (vp_in_nI (by omega) (by decide))) (nI_clamp (by omega)) ?_
        refine ev_iinc_2 (pc := 51) (v := nI (k + 1)) dX8_does_51 (nI_inc k) (by decide) ?_
        refine ev_goto (pc := 54) (tgt := 2) dX8_does_54 (by decide) ?_
        exact ev_eq rfl rfl (congrArg (wr τ 129 k) (by unfold dsF; rw [if_neg (fun z => h25 (by rw [z])), if_pos (nI_inj (b := 4) h36 (by omega) (by omega)), if_neg h40])) (K _ (Or.inr ⟨_, rfl⟩))
  · skip
    refine ev_iload_n_3 (pc := 28) dX8_does_28 ?_
    refine ev_iconst (pc := 29) (v := 1) dX8_does_29 (by decide) ?_
    refine ev_iadd (pc := 30) dX8_does_30 ?_
    refine ev_goto (pc := 31) (tgt := 50) dX8_does_31 (by decide) ?_
    refine ev_iastore' (pc := 50) (j := k) dX8_does_50 (by decide) (by decide) (show vp_in _ 11 from (vp_in_nI (by omega) (by decide))) (nI_clamp (by omega)) ?_
    refine ev_iinc_2 (pc := 51) (v := nI (k + 1)) dX8_does_51 (nI_inc k) (by decide) ?_
    refine ev_goto (pc := 54) (tgt := 2) dX8_does_54 (by decide) ?_
    exact ev_eq rfl rfl (congrArg (wr τ 129 k) (by unfold dsF; rw [if_pos (nI_inj h25 (by omega) (by omega))])) (K _ (Or.inr ⟨_, rfl⟩))
