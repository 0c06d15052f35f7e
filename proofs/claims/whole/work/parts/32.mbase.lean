/-! ===== the reference: small methods ===== -/
set_option maxRecDepth 100000 in
theorem m_X8_in {S : Scr} (v a b : Int32) (σ : Sto) : Mt S yX8_in cX8_in 3 (some .boolean) 0 [.int v, .int a, .int b] σ (Is (some (.int (bI (a ≤ v ∧ v ≤ b)))) σ) := by
  refine mt_of (ls := [.int v, .int a, .int b]) (by decide) rfl (Nat.le_of_ble_eq_true rfl) (by simp [Value.category]) ?_
  refine ev_iload_n_0 (pc := 0) dX8_in_0 ?_
  refine ev_iload_n_1 (pc := 1) dX8_in_1 ?_
  refine ev_icmp_lt (pc := 2) (tgt := 14) dX8_in_2 (by decide) (fun h2 => ?_) (fun h2 => ?_)
  · skip
    refine ev_iconst (pc := 14) (v := 0) dX8_in_14 (by decide) ?_
    exact ev_ireturn (pc := 15) dX8_in_15 rfl rfl (⟨by rw [bI_f (fun z => absurd z.1 (Int32.not_le.mpr h2))], rfl⟩)
  · skip
    refine ev_iload_n_0 (pc := 5) dX8_in_5 ?_
    refine ev_iload_n_2 (pc := 6) dX8_in_6 ?_
    refine ev_icmp_gt (pc := 7) (tgt := 14) dX8_in_7 (by decide) (fun h7 => ?_) (fun h7 => ?_)
    · skip
      refine ev_iconst (pc := 14) (v := 0) dX8_in_14 (by decide) ?_
      exact ev_ireturn (pc := 15) dX8_in_15 rfl rfl (⟨by rw [bI_f (fun z => absurd z.2 (Int32.not_le.mpr h7))], rfl⟩)
    · skip
      refine ev_iconst (pc := 10) (v := 1) dX8_in_10 (by decide) ?_
      refine ev_goto (pc := 11) (tgt := 15) dX8_in_11 (by decide) ?_
      exact ev_ireturn (pc := 15) dX8_in_15 rfl rfl (⟨by rw [bI_t ⟨Int32.not_lt.mp h2, Int32.not_lt.mp h7⟩], rfl⟩)
set_option maxRecDepth 100000 in
theorem m_X8_has {S : Scr} (s : Int32) (b : Nat) (σ : Sto) : Mt S yX8_has cX8_has 2 (some .boolean) 0 [.int s, .int (nI b)] σ (Is (some (.int (bI (bit s b)))) σ) := by
  refine mt_of (ls := [.int s, .int (nI b)]) (by decide) rfl (Nat.le_of_ble_eq_true rfl) (by simp [Value.category]) ?_
  refine ev_iload_n_0 (pc := 0) dX8_has_0 ?_
  refine ev_iload_n_1 (pc := 1) dX8_has_1 ?_
  refine ev_ishr (pc := 2) dX8_has_2 ?_
  refine ev_iconst (pc := 3) (v := 1) dX8_has_3 (by decide) ?_
  refine ev_iand (pc := 4) dX8_has_4 ?_
  refine ev_iconst (pc := 5) (v := 1) dX8_has_5 (by decide) ?_
  refine ev_icmp_ne (pc := 6) (tgt := 13) dX8_has_6 (by decide) (fun h6 => ?_) (fun h6 => ?_)
  · skip
    refine ev_iconst (pc := 13) (v := 0) dX8_has_13 (by decide) ?_
    exact ev_ireturn (pc := 14) dX8_has_14 rfl rfl (⟨by simp [bI, bit, h6], rfl⟩)
  · skip
    refine ev_iconst (pc := 9) (v := 1) dX8_has_9 (by decide) ?_
    refine ev_goto (pc := 10) (tgt := 14) dX8_has_10 (by decide) ?_
    exact ev_ireturn (pc := 14) dX8_has_14 rfl rfl (⟨by simp [bI, bit, h6], rfl⟩)
abbrev btD (s : Int32) : Int32 := 0 + (s >>> ((0 : Int32) &&& 31) &&& 1) + (s >>> ((1 : Int32) &&& 31) &&& 1) + (s >>> ((2 : Int32) &&& 31) &&& 1) + (s >>> ((3 : Int32) &&& 31) &&& 1) + (s >>> ((4 : Int32) &&& 31) &&& 1) + (s >>> ((5 : Int32) &&& 31) &&& 1)
set_option maxRecDepth 100000 in
theorem m_X8_bits {S : Scr} (s : Int32) (σ : Sto) : Mt S yX8_bits cX8_bits 3 (some .int) 0 [.int s] σ (Is (some (.int (btD s))) σ) := by
  refine mt_of (ls := [.int s, .null, .null]) (by decide) rfl (Nat.le_of_ble_eq_true rfl) (by simp [Value.category]) ?_
  refine ev_iconst (pc := 0) (v := 0) dX8_bits_0 (by decide) ?_
  refine ev_istore_n_1 (pc := 1) dX8_bits_1 (by decide) ?_
  refine ev_iconst (pc := 2) (v := 0) dX8_bits_2 (by decide) ?_
  refine ev_istore_n_2 (pc := 3) dX8_bits_3 (by decide) ?_
  refine ev_iload_n_2 (pc := 4) dX8_bits_4 ?_
  refine ev_bipush (pc := 5) (v := 6) dX8_bits_5 (by decide) ?_
  refine ev_icmp_ge (pc := 7) (tgt := 24) dX8_bits_7 (by decide) (fun h7 => by exact absurd h7 (by decide)) (fun h7 => ?_)
  refine ev_iload_n_1 (pc := 10) dX8_bits_10 ?_
  refine ev_iload_n_0 (pc := 11) dX8_bits_11 ?_
  refine ev_iload_n_2 (pc := 12) dX8_bits_12 ?_
  refine ev_ishr (pc := 13) dX8_bits_13 ?_
  refine ev_iconst (pc := 14) (v := 1) dX8_bits_14 (by decide) ?_
  refine ev_iand (pc := 15) dX8_bits_15 ?_
  refine ev_iadd (pc := 16) dX8_bits_16 ?_
  refine ev_istore_n_1 (pc := 17) dX8_bits_17 (by decide) ?_
  refine ev_iinc_2 (pc := 18) (v := 1) dX8_bits_18 (by decide) (by decide) ?_
  refine ev_goto (pc := 21) (tgt := 4) dX8_bits_21 (by decide) ?_
  refine ev_iload_n_2 (pc := 4) dX8_bits_4 ?_
  refine ev_bipush (pc := 5) (v := 6) dX8_bits_5 (by decide) ?_
  refine ev_icmp_ge (pc := 7) (tgt := 24) dX8_bits_7 (by decide) (fun h7 => by exact absurd h7 (by decide)) (fun h7 => ?_)
  refine ev_iload_n_1 (pc := 10) dX8_bits_10 ?_
  refine ev_iload_n_0 (pc := 11) dX8_bits_11 ?_
  refine ev_iload_n_2 (pc := 12) dX8_bits_12 ?_
  refine ev_ishr (pc := 13) dX8_bits_13 ?_
  refine ev_iconst (pc := 14) (v := 1) dX8_bits_14 (by decide) ?_
  refine ev_iand (pc := 15) dX8_bits_15 ?_
  refine ev_iadd (pc := 16) dX8_bits_16 ?_
  refine ev_istore_n_1 (pc := 17) dX8_bits_17 (by decide) ?_
  refine ev_iinc_2 (pc := 18) (v := 2) dX8_bits_18 (by decide) (by decide) ?_
  refine ev_goto (pc := 21) (tgt := 4) dX8_bits_21 (by decide) ?_
  refine ev_iload_n_2 (pc := 4) dX8_bits_4 ?_
  refine ev_bipush (pc := 5) (v := 6) dX8_bits_5 (by decide) ?_
  refine ev_icmp_ge (pc := 7) (tgt := 24) dX8_bits_7 (by decide) (fun h7 => by exact absurd h7 (by decide)) (fun h7 => ?_)
  refine ev_iload_n_1 (pc := 10) dX8_bits_10 ?_
  refine ev_iload_n_0 (pc := 11) dX8_bits_11 ?_
  refine ev_iload_n_2 (pc := 12) dX8_bits_12 ?_
  refine ev_ishr (pc := 13) dX8_bits_13 ?_
  refine ev_iconst (pc := 14) (v := 1) dX8_bits_14 (by decide) ?_
  refine ev_iand (pc := 15) dX8_bits_15 ?_
  refine ev_iadd (pc := 16) dX8_bits_16 ?_
  refine ev_istore_n_1 (pc := 17) dX8_bits_17 (by decide) ?_
  refine ev_iinc_2 (pc := 18) (v := 3) dX8_bits_18 (by decide) (by decide) ?_
  refine ev_goto (pc := 21) (tgt := 4) dX8_bits_21 (by decide) ?_
  refine ev_iload_n_2 (pc := 4) dX8_bits_4 ?_
  refine ev_bipush (pc := 5) (v := 6) dX8_bits_5 (by decide) ?_
  refine ev_icmp_ge (pc := 7) (tgt := 24) dX8_bits_7 (by decide) (fun h7 => by exact absurd h7 (by decide)) (fun h7 => ?_)
  refine ev_iload_n_1 (pc := 10) dX8_bits_10 ?_
  refine ev_iload_n_0 (pc := 11) dX8_bits_11 ?_
  refine ev_iload_n_2 (pc := 12) dX8_bits_12 ?_
  refine ev_ishr (pc := 13) dX8_bits_13 ?_
  refine ev_iconst (pc := 14) (v := 1) dX8_bits_14 (by decide) ?_
  refine ev_iand (pc := 15) dX8_bits_15 ?_
  refine ev_iadd (pc := 16) dX8_bits_16 ?_
  refine ev_istore_n_1 (pc := 17) dX8_bits_17 (by decide) ?_
  refine ev_iinc_2 (pc := 18) (v := 4) dX8_bits_18 (by decide) (by decide) ?_
  refine ev_goto (pc := 21) (tgt := 4) dX8_bits_21 (by decide) ?_
  refine ev_iload_n_2 (pc := 4) dX8_bits_4 ?_
  refine ev_bipush (pc := 5) (v := 6) dX8_bits_5 (by decide) ?_
  refine ev_icmp_ge (pc := 7) (tgt := 24) dX8_bits_7 (by decide) (fun h7 => by exact absurd h7 (by decide)) (fun h7 => ?_)
  refine ev_iload_n_1 (pc := 10) dX8_bits_10 ?_
  refine ev_iload_n_0 (pc := 11) dX8_bits_11 ?_
  refine ev_iload_n_2 (pc := 12) dX8_bits_12 ?_
  refine ev_ishr (pc := 13) dX8_bits_13 ?_
  refine ev_iconst (pc := 14) (v := 1) dX8_bits_14 (by decide) ?_
  refine ev_iand (pc := 15) dX8_bits_15 ?_
  refine ev_iadd (pc := 16) dX8_bits_16 ?_
  refine ev_istore_n_1 (pc := 17) dX8_bits_17 (by decide) ?_
  refine ev_iinc_2 (pc := 18) (v := 5) dX8_bits_18 (by decide) (by decide) ?_
  refine ev_goto (pc := 21) (tgt := 4) dX8_bits_21 (by decide) ?_
  refine ev_iload_n_2 (pc := 4) dX8_bits_4 ?_
  refine ev_bipush (pc := 5) (v := 6) dX8_bits_5 (by decide) ?_
  refine ev_icmp_ge (pc := 7) (tgt := 24) dX8_bits_7 (by decide) (fun h7 => by exact absurd h7 (by decide)) (fun h7 => ?_)
  refine ev_iload_n_1 (pc := 10) dX8_bits_10 ?_
  refine ev_iload_n_0 (pc := 11) dX8_bits_11 ?_
  refine ev_iload_n_2 (pc := 12) dX8_bits_12 ?_
  refine ev_ishr (pc := 13) dX8_bits_13 ?_
  refine ev_iconst (pc := 14) (v := 1) dX8_bits_14 (by decide) ?_
  refine ev_iand (pc := 15) dX8_bits_15 ?_
  refine ev_iadd (pc := 16) dX8_bits_16 ?_
  refine ev_istore_n_1 (pc := 17) dX8_bits_17 (by decide) ?_
  refine ev_iinc_2 (pc := 18) (v := 6) dX8_bits_18 (by decide) (by decide) ?_
  refine ev_goto (pc := 21) (tgt := 4) dX8_bits_21 (by decide) ?_
  refine ev_iload_n_2 (pc := 4) dX8_bits_4 ?_
  refine ev_bipush (pc := 5) (v := 6) dX8_bits_5 (by decide) ?_
  refine ev_icmp_ge (pc := 7) (tgt := 24) dX8_bits_7 (by decide) (fun h7 => ?_) (fun h7 => by exact absurd h7 (by decide))
  refine ev_iload_n_1 (pc := 24) dX8_bits_24 ?_
  exact ev_ireturn (pc := 25) dX8_bits_25 rfl rfl (⟨rfl, rfl⟩)
theorem okB_le {A : Abs} (hn : aN A ≤ 6) (b : Int32) : (0 ≤ b ∧ b ≤ nI (aN A) - 1) ↔ okB A b := by
  have e : (nI (aN A) - 1).toInt = (aN A : Int) - 1 := (by decide +kernel : ∀ n, n ≤ 6 → (nI n - 1).toInt = (n : Int) - 1) _ hn
  unfold okB
  rw [tI_le, tI_le, tI_lt, tI_lt, e, Int32.toInt_zero, nI_toInt (by omega)]
  constructor
  · intro h; exact ⟨by omega, by omega⟩
  · intro h; exact ⟨by omega, by omega⟩
theorem okP_le (p : Int32) : (0 ≤ p ∧ p ≤ 3) ↔ okP p := by
  unfold okP
  rw [tI_le, tI_le, tI_lt, tI_lt, Int32.toInt_zero, show (3 : Int32).toInt = 3 from rfl, show (4 : Int32).toInt = 4 from rfl]
  constructor
  · intro h; exact ⟨by omega, by omega⟩
  · intro h; exact ⟨by omega, by omega⟩
set_option maxRecDepth 100000 in
theorem m_X8_isBrother {S : Scr} {A : Abs} (b : Int32) (σ : Sto) (h : RM A σ) : Mt S yX8_isBrother cX8_isBrother 2 (some .boolean) 1 [.ref 117, .int b] σ (Is (some (.int (bI (okB A b)))) σ) := by
  refine mt_of (ls := [.ref 117, .int b]) (by decide) rfl (Nat.le_of_ble_eq_true rfl) (by simp [Value.category]) ?_
  refine ev_iload_n_1 (pc := 0) dX8_isBrother_0 ?_
  refine ev_iconst (pc := 1) (v := 0) dX8_isBrother_1 (by decide) ?_
  refine ev_aload_n_0 (pc := 2) dX8_isBrother_2 ?_
  refine ev_getI (pc := 3) dX8_isBrother_3 fl_X8_50 (by decide) (by decide) (by decide) ?_
  refine ev_iconst (pc := 6) (v := 1) dX8_isBrother_6 (by decide) ?_
  refine ev_isub (pc := 7) dX8_isBrother_7 ?_
  refine ev_callS1 (pc := 8) dX8_isBrother_8 ml_X8_54 (m_X8_in _ _ _ σ) rfl (by decide) rfl (Nat.le_of_ble_eq_true rfl) ?_
  exact ev_ireturn (pc := 11) dX8_isBrother_11 rfl (by unfold bI; split <;> rfl) (⟨by rw [h.m, bI_iff (okB_le h.n6 b)], rfl⟩)
set_option maxRecDepth 100000 in
theorem m_X8_isPart {S : Scr} (p : Int32) (σ : Sto) : Mt S yX8_isPart cX8_isPart 1 (some .boolean) 1 [.int p] σ (Is (some (.int (bI (okP p)))) σ) := by
  refine mt_of (ls := [.int p]) (by decide) rfl (Nat.le_of_ble_eq_true rfl) (by simp [Value.category]) ?_
  refine ev_iload_n_0 (pc := 0) dX8_isPart_0 ?_
  refine ev_iconst (pc := 1) (v := 0) dX8_isPart_1 (by decide) ?_
  refine ev_iconst (pc := 2) (v := 3) dX8_isPart_2 (by decide) ?_
  refine ev_callS1 (pc := 3) dX8_isPart_3 ml_X8_54 (m_X8_in _ _ _ σ) rfl (by decide) rfl (Nat.le_of_ble_eq_true rfl) ?_
  exact ev_ireturn (pc := 6) dX8_isPart_6 rfl (by unfold bI; split <;> rfl) (⟨by rw [bI_iff (okP_le p)], rfl⟩)
/-- of o's cells from fr_ on, k into t's from at_ on -/
def cpk (σ : Sto) (o fr_ t at_ k : Nat) : Sto := (fun a b => if a = t ∧ at_ ≤ b ∧ b < at_ + k then σ.1 o (fr_ + (b - at_)) else σ.1 a b, σ.2)
theorem cpk_0 (σ : Sto) (o fr_ t at_ : Nat) : cpk σ o fr_ t at_ 0 = σ := by
  refine Prod.ext (funext fun a => funext fun b => ?_) rfl
  unfold cpk
  show (if a = t ∧ at_ ≤ b ∧ b < at_ + 0 then _ else _) = _
  rw [if_neg (by omega)]
theorem cpk_s (σ : Sto) (o fr_ t at_ k : Nat) : wr (cpk σ o fr_ t at_ k) t (at_ + k) (σ.1 o (fr_ + k)) = cpk σ o fr_ t at_ (k + 1) := by
  refine Prod.ext (funext fun a => funext fun b => ?_) rfl
  unfold wr cpk
  show (if a = t ∧ b = at_ + k then _ else if a = t ∧ at_ ≤ b ∧ b < at_ + k then _ else _) = if a = t ∧ at_ ≤ b ∧ b < at_ + (k + 1) then _ else _
  by_cases e : a = t
  · by_cases e2 : b = at_ + k
    · rw [if_pos ⟨e, e2⟩, if_pos ⟨e, by omega, by omega⟩, e2, show at_ + k - at_ = k by omega]
    · rw [if_neg (fun z => e2 z.2)]
      by_cases e3 : at_ ≤ b ∧ b < at_ + k
      · rw [if_pos ⟨e, e3⟩, if_pos ⟨e, e3.1, by omega⟩]
      · rw [if_neg (fun z => e3 z.2), if_neg (fun z => e3 ⟨z.2.1, by omega⟩)]
  · rw [if_neg (fun z => e z.1), if_neg (fun z => e z.1), if_neg (fun z => e z.1)]
theorem cpk_ne {σ : Sto} {o fr_ t at_ k c : Nat} (h : c ≠ t) : (cpk σ o fr_ t at_ k).1 c = σ.1 c := by funext b; unfold cpk; simp [h]
theorem cpk_in {σ : Sto} {o fr_ t at_ k j : Nat} (h : j < k) : (cpk σ o fr_ t at_ k).1 t (at_ + j) = σ.1 o (fr_ + j) := by
  unfold cpk
  show (if t = t ∧ at_ ≤ at_ + j ∧ at_ + j < at_ + k then _ else _) = _
  rw [if_pos ⟨rfl, by omega, by omega⟩, show at_ + j - at_ = j by omega]
theorem cpk_out {σ : Sto} {o fr_ t at_ k j : Nat} (h : j < at_ ∨ at_ + k ≤ j) : (cpk σ o fr_ t at_ k).1 t j = σ.1 t j := by
  unfold cpk
  show (if t = t ∧ at_ ≤ j ∧ j < at_ + k then _ else _) = _
  rw [if_neg (by omega)]
set_option maxRecDepth 100000 in
theorem b_X8_copy {S : Scr} {t o m q : Nat} (ht : IsA t m) (ho : IsA o q) (hne : o ≠ t) (at_ fr_ : Nat) (h1 : at_ + 11 ≤ m) (h2 : fr_ + 11 ≤ q) (hm : m < 1000) (hq : q < 1000) (k : Nat) (hk : k < 11) (σ : Sto) {Q : Option Value → Sto → Prop} (K : Ev S RX8 cX8_copy 5 none 0 3 [.ref t, .int (nI at_), .ref o, .int (nI fr_), .int (nI (k + 1))] [] (wr σ t (at_ + k) (σ.1 o (fr_ + k))) (Q)) : Ev S RX8 cX8_copy 5 none 0 3 [.ref t, .int (nI at_), .ref o, .int (nI fr_), .int (nI k)] [] σ (Q) := by
  refine ev_iload_4 (pc := 3) dX8_copy_3 ?_
  refine ev_bipush (pc := 5) (v := 11) dX8_copy_5 (by decide) ?_
  refine ev_icmp_ge (pc := 7) (tgt := 28) dX8_copy_7 (by decide) (fun h7 => by exact absurd h7 (nI_ge (a := k) (b := 11) hk (by decide))) (fun h7 => ?_)
  refine ev_aload_n_0 (pc := 10) dX8_copy_10 ?_
  refine ev_iload_n_1 (pc := 11) dX8_copy_11 ?_
  refine ev_iload_4 (pc := 12) dX8_copy_12 ?_
  refine ev_iaddc (pc := 14) (v := nI (at_ + k)) dX8_copy_14 (nI_add at_ k) ?_
  refine ev_aload_n_2 (pc := 15) dX8_copy_15 ?_
  refine ev_iload_n_3 (pc := 16) dX8_copy_16 ?_
  refine ev_iload_4 (pc := 17) dX8_copy_17 ?_
  refine ev_iaddc (pc := 19) (v := nI (fr_ + k)) dX8_copy_19 (nI_add fr_ k) ?_
  refine ev_iaload' (pc := 20) (j := (fr_ + k)) dX8_copy_20 ho.1 ho.2.1 (by rw [ho.2.2]; exact (vp_in_nI (by omega) (by omega))) (nI_clamp (by omega)) ?_
  refine ev_iastore' (pc := 21) (j := (at_ + k)) dX8_copy_21 ht.1 ht.2.1 (by rw [ht.2.2]; exact (vp_in_nI (by omega) (by omega))) (nI_clamp (by omega)) ?_
  refine ev_iinc_4 (pc := 22) (v := nI (k + 1)) dX8_copy_22 (nI_inc k) (by decide) ?_
  refine ev_goto (pc := 25) (tgt := 3) dX8_copy_25 (by decide) ?_
  exact K
theorem l_X8_copy {S : Scr} {t o m q : Nat} (ht : IsA t m) (ho : IsA o q) (hne : o ≠ t) (at_ fr_ : Nat) (h1 : at_ + 11 ≤ m) (h2 : fr_ + 11 ≤ q) (hm : m < 1000) (hq : q < 1000) (σ : Sto) : Ev S RX8 cX8_copy 5 none 0 3 [.ref t, .int (nI at_), .ref o, .int (nI fr_), .int (nI 0)] [] (cpk σ o fr_ t at_ 0) (Is none (cpk σ o fr_ t at_ 11)) := by
  refine for_up 11 (fun i (_ : Unit) => Ev S RX8 cX8_copy 5 none 0 3 [.ref t, .int (nI at_), .ref o, .int (nI fr_), .int (nI i)] [] (cpk σ o fr_ t at_ i) (Is none (cpk σ o fr_ t at_ 11))) (fun _ u => u) (fun i _ hi K => b_X8_copy ht ho hne at_ fr_ h1 h2 hm hq i hi _ (by rw [cpk_ne hne, cpk_s]; exact K)) () ?_
  refine ev_iload_4 (pc := 3) dX8_copy_3 ?_
  refine ev_bipush (pc := 5) (v := 11) dX8_copy_5 (by decide) ?_
  refine ev_icmp_ge (pc := 7) (tgt := 28) dX8_copy_7 (by decide) (fun h7 => ?_) (fun h7 => by exact absurd h7 (by decide))
  exact ev_return (pc := 28) dX8_copy_28 rfl (⟨rfl, rfl⟩)
theorem m_X8_copy {S : Scr} {t o m q : Nat} (ht : IsA t m) (ho : IsA o q) (hne : o ≠ t) (at_ fr_ : Nat) (h1 : at_ + 11 ≤ m) (h2 : fr_ + 11 ≤ q) (hm : m < 1000) (hq : q < 1000) (σ : Sto) : Mt S yX8_copy cX8_copy 5 none 0 [.ref t, .int (nI at_), .ref o, .int (nI fr_)] σ (Is none (cpk σ o fr_ t at_ 11)) := by
  refine mt_of (ls := [.ref t, .int (nI at_), .ref o, .int (nI fr_), .null]) (by decide) rfl (Nat.le_of_ble_eq_true rfl) (by simp [Value.category]) ?_
  refine ev_iconst (pc := 0) (v := 0) dX8_copy_0 (by decide) ?_
  refine ev_istore_4 (pc := 1) dX8_copy_1 (by decide) ?_
  have h := l_X8_copy (S := S) ht ho hne at_ fr_ h1 h2 hm hq σ
  rw [cpk_0] at h
  exact h
theorem isA_120 : IsA 120 11 := ⟨by decide, by decide, by decide⟩
theorem isA_121 : IsA 121 110 := ⟨by decide, by decide, by decide⟩
theorem isA_122 : IsA 122 22 := ⟨by decide, by decide, by decide⟩
theorem isA_129 : IsA 129 11 := ⟨by decide, by decide, by decide⟩
abbrev nowW (σ : Sto) : Sto := cpk σ 120 0 129 0 11
set_option maxRecDepth 100000 in
theorem m_X8_asItIs {S : Scr}  (σ : Sto) : Mt S yX8_asItIs cX8_asItIs 1 none 1 [.ref 117] σ (Is none (nowW σ)) := by
  refine mt_of (ls := [.ref 117]) (by decide) rfl (Nat.le_of_ble_eq_true rfl) (by simp [Value.category]) ?_
  refine ev_aload_n_0 (pc := 0) dX8_asItIs_0 ?_
  refine ev_getR (pc := 1) (r := 129) dX8_asItIs_1 fl_X8_44 (by decide) (by decide) (by decide) (by decide) ?_
  refine ev_iconst (pc := 4) (v := 0) dX8_asItIs_4 (by decide) ?_
  refine ev_aload_n_0 (pc := 5) dX8_asItIs_5 ?_
  refine ev_getR (pc := 6) (r := 120) dX8_asItIs_6 fl_X8_16 (by decide) (by decide) (by decide) (by decide) ?_
  refine ev_iconst (pc := 9) (v := 0) dX8_asItIs_9 (by decide) ?_
  refine ev_callS0 (pc := 10) dX8_asItIs_10 ml_X8_119 (m_X8_copy isA_129 isA_120 (by decide) 0 0 (by decide) (by decide) (by decide) (by decide) σ) rfl (by decide) rfl (Nat.le_of_ble_eq_true rfl) ?_
  exact ev_return (pc := 13) dX8_asItIs_13 rfl (⟨rfl, rfl⟩)
theorem mls_now (σ : Sto) : Mls σ (nowW σ) := ⟨rfl, fun c hc => cpk_ne (by omega), fun c h1 h2 => cpk_ne (by omega), fun j _ => by rw [cpk_ne (by decide)]⟩
theorem RM.now {A : Abs} {σ : Sto} (h : RM A σ) : mrow (nowW σ) 129 0 (aN A) (aC A) := by
  obtain ⟨h1, h2, h3⟩ := h.2.2.1
  have e : ∀ j, j < 11 → (nowW σ).1 129 j = σ.1 120 j := fun j hj => by have := cpk_in (σ := σ) (o := 120) (fr_ := 0) (t := 129) (at_ := 0) (k := 11) hj; simp only [Nat.zero_add] at this; exact this
  refine ⟨fun p hp => ?_, ?_, fun b hb => ?_⟩
  · rw [e _ (by omega)]; exact h1 p hp
  · rw [e _ (by omega)]; exact h2
  · have hb' : b < aN A := hb
    have := h.n6
    rw [e _ (by omega)]; exact h3 b hb
set_option maxRecDepth 100000 in
theorem m_X8_tasted {S : Scr} (a : Int32) (p : Nat) (hp : p < 4) (c : Int32) (hc : c = 0 ∨ c = 1) (σ : Sto) : Mt S yX8_tasted cX8_tasted 3 (some .int) 0 [.int a, .int (nI p), .int c] σ (Is (some (.int (tst p a c))) σ) := by
  refine mt_of (ls := [.int a, .int (nI p), .int c]) (by decide) rfl (Nat.le_of_ble_eq_true rfl) (by simp [Value.category]) ?_
  refine ev_iload_n_1 (pc := 0) dX8_tasted_0 ?_
  refine ev_iconst (pc := 1) (v := 3) dX8_tasted_1 (by decide) ?_
  refine ev_icmp_ne (pc := 2) (tgt := 15) dX8_tasted_2 (by decide) (fun h2 => ?_) (fun h2 => ?_)
  · skip
    refine ev_iload_n_0 (pc := 15) dX8_tasted_15 ?_
    exact ev_ireturn (pc := 16) dX8_tasted_16 rfl rfl (⟨by rw [tst, if_neg (fun z => h2 ((nI_eq3 p hp).mpr z.1))], rfl⟩)
  · skip
    refine ev_iload_n_2 (pc := 5) dX8_tasted_5 ?_
    refine ev_if_eq (pc := 6) (tgt := 15) dX8_tasted_6 (by decide) (fun h6 => ?_) (fun h6 => ?_)
    · skip
      refine ev_iload_n_0 (pc := 15) dX8_tasted_15 ?_
      exact ev_ireturn (pc := 16) dX8_tasted_16 rfl rfl (⟨by rw [tst, if_neg (fun z => absurd (h6.symm.trans z.2) (by decide))], rfl⟩)
    · skip
      refine ev_iload_n_0 (pc := 9) dX8_tasted_9 ?_
      refine ev_iconst (pc := 10) (v := 2) dX8_tasted_10 (by decide) ?_
      refine ev_idiv (pc := 11) dX8_tasted_11 (by decide) ?_
      refine ev_goto (pc := 12) (tgt := 16) dX8_tasted_12 (by decide) ?_
      exact ev_ireturn (pc := 16) dX8_tasted_16 rfl rfl (⟨by rw [tst, if_pos ⟨(nI_eq3 p hp).mp h2, hc.resolve_left h6⟩], rfl⟩)
set_option maxRecDepth 100000 in
theorem m_X8_far {S : Scr} (x : Int32) (σ : Sto) : Mt S yX8_far cX8_far 1 (some .int) 0 [.int x] σ (Is (some (.int (fr x))) σ) := by
  refine mt_of (ls := [.int x]) (by decide) rfl (Nat.le_of_ble_eq_true rfl) (by simp [Value.category]) ?_
  refine ev_iload_n_0 (pc := 0) dX8_far_0 ?_
  refine ev_if_ge (pc := 1) (tgt := 9) dX8_far_1 (by decide) (fun h1 => ?_) (fun h1 => ?_)
  · skip
    refine ev_iload_n_0 (pc := 9) dX8_far_9 ?_
    exact ev_ireturn (pc := 10) dX8_far_10 rfl rfl (⟨by rw [fr, if_pos h1], rfl⟩)
  · skip
    refine ev_iload_n_0 (pc := 4) dX8_far_4 ?_
    refine ev_ineg (pc := 5) dX8_far_5 ?_
    refine ev_goto (pc := 6) (tgt := 10) dX8_far_6 (by decide) ?_
    exact ev_ireturn (pc := 10) dX8_far_10 rfl rfl (⟨by rw [fr, if_neg h1], rfl⟩)
abbrev offM (σ : Sto) (b : Nat) (c : Int32) : Nat → Int32 := offD (fun p => σ.1 118 (4 * b + p)) (σ.1 129) c
set_option maxRecDepth 100000 in
theorem m_X8_offOf {S : Scr} (b : Nat) (hb : b < 6) (p : Nat) (hp : p < 4) (c : Int32) (hc : c = 0 ∨ c = 1) (σ : Sto) : Mt S yX8_offOf cX8_offOf 4 (some .int) 1 [.ref 117, .int (nI b), .int (nI p), .int c] σ (Is (some (.int (offM σ b c p))) σ) := by
  refine mt_of (ls := [.ref 117, .int (nI b), .int (nI p), .int c]) (by decide) rfl (Nat.le_of_ble_eq_true rfl) (by simp [Value.category]) ?_
  refine ev_aload_n_0 (pc := 0) dX8_offOf_0 ?_
  refine ev_getR (pc := 1) (r := 129) dX8_offOf_1 fl_X8_44 (by decide) (by decide) (by decide) (by decide) ?_
  refine ev_iconst (pc := 4) (v := 0) dX8_offOf_4 (by decide) ?_
  refine ev_iload_n_2 (pc := 5) dX8_offOf_5 ?_
  refine ev_iaddc (pc := 6) (v := nI p) dX8_offOf_6 (nI_zadd p) ?_
  refine ev_iaload' (pc := 7) (j := p) dX8_offOf_7 (by decide) (by decide) (show vp_in _ 11 from (vp_in_nI (by omega) (by decide))) (nI_clamp (by omega)) ?_
  refine ev_iload_n_2 (pc := 8) dX8_offOf_8 ?_
  refine ev_iload_n_3 (pc := 9) dX8_offOf_9 ?_
  refine ev_callS1 (pc := 10) dX8_offOf_10 ml_X8_123 (m_X8_tasted _ p hp c hc σ) rfl (by decide) rfl (Nat.le_of_ble_eq_true rfl) ?_
  refine ev_aload_n_0 (pc := 13) dX8_offOf_13 ?_
  refine ev_getR (pc := 14) (r := 118) dX8_offOf_14 fl_X8_7 (by decide) (by decide) (by decide) (by decide) ?_
  refine ev_iconst (pc := 17) (v := 4) dX8_offOf_17 (by decide) ?_
  refine ev_iload_n_1 (pc := 18) dX8_offOf_18 ?_
  refine ev_imulc (pc := 19) (v := nI (4 * b)) dX8_offOf_19 (nI_mul 4 b) ?_
  refine ev_iload_n_2 (pc := 20) dX8_offOf_20 ?_
  refine ev_iaddc (pc := 21) (v := nI ((4 * b) + p)) dX8_offOf_21 (nI_add (4 * b) p) ?_
  refine ev_iaload' (pc := 22) (j := ((4 * b) + p)) dX8_offOf_22 (by decide) (by decide) (show vp_in _ 24 from (vp_in_nI (by omega) (by decide))) (nI_clamp (by omega)) ?_
  refine ev_isub (pc := 23) dX8_offOf_23 ?_
  exact ev_ireturn (pc := 24) dX8_offOf_24 rfl rfl (⟨rfl, rfl⟩)
set_option maxRecDepth 100000 in
theorem b_X8_mienBy {S : Scr} (b : Nat) (hb : b < 6) (c : Int32) (hc : c = 0 ∨ c = 1) (i : Nat) (hi : i < 3) (w : Nat) (hw : w < 4) (σ : Sto) {Q : Option Value → Sto → Prop} (K : Ev S RX8 cX8_mienBy 5 (some .int) 2 5 [.ref 117, .int (nI b), .int c, .int (nI (wmS (offM σ b c) i w)), .int (nI (i + 1 + 1))] [] σ (Q)) : Ev S RX8 cX8_mienBy 5 (some .int) 2 5 [.ref 117, .int (nI b), .int c, .int (nI w), .int (nI (i + 1))] [] σ (Q) := by
  refine ev_iload_4 (pc := 5) dX8_mienBy_5 ?_
  refine ev_iconst (pc := 7) (v := 4) dX8_mienBy_7 (by decide) ?_
  refine ev_icmp_ge (pc := 8) (tgt := 48) dX8_mienBy_8 (by decide) (fun h8 => by exact absurd h8 (nI_ge (a := i + 1) (b := 4) (by omega) (by decide))) (fun h8 => ?_)
  refine ev_aload_n_0 (pc := 11) dX8_mienBy_11 ?_
  refine ev_iload_n_1 (pc := 12) dX8_mienBy_12 ?_
  refine ev_iload_4 (pc := 13) dX8_mienBy_13 ?_
  refine ev_iload_n_2 (pc := 15) dX8_mienBy_15 ?_
  refine ev_callV1 (pc := 16) dX8_mienBy_16 ml_X8_127 (m_X8_offOf b hb (i + 1) (by omega) c hc σ) (by decide) ⟨_, rfl, rfl⟩ rfl (by decide) rfl (Nat.le_of_ble_eq_true rfl) ?_
  refine ev_callS1 (pc := 19) dX8_mienBy_19 ml_X8_130 (m_X8_far _ σ) rfl (by decide) rfl (Nat.le_of_ble_eq_true rfl) ?_
  refine ev_aload_n_0 (pc := 22) dX8_mienBy_22 ?_
  refine ev_iload_n_1 (pc := 23) dX8_mienBy_23 ?_
  refine ev_iload_n_3 (pc := 24) dX8_mienBy_24 ?_
  refine ev_iload_n_2 (pc := 25) dX8_mienBy_25 ?_
  refine ev_callV1 (pc := 26) dX8_mienBy_26 ml_X8_127 (m_X8_offOf b hb w hw c hc σ) (by decide) ⟨_, rfl, rfl⟩ rfl (by decide) rfl (Nat.le_of_ble_eq_true rfl) ?_
  refine ev_callS1 (pc := 29) dX8_mienBy_29 ml_X8_130 (m_X8_far _ σ) rfl (by decide) rfl (Nat.le_of_ble_eq_true rfl) ?_
  refine ev_icmp_le (pc := 32) (tgt := 40) dX8_mienBy_32 (by decide) (fun h32 => ?_) (fun h32 => ?_)
  · skip
    refine ev_iload_n_3 (pc := 40) dX8_mienBy_40 ?_
    refine ev_istore_n_3 (pc := 41) dX8_mienBy_41 (by decide) ?_
    refine ev_iinc_4 (pc := 42) (v := nI ((i + 1) + 1)) dX8_mienBy_42 (nI_inc (i + 1)) (by decide) ?_
    refine ev_goto (pc := 45) (tgt := 5) dX8_mienBy_45 (by decide) ?_
    exact ev_eq (by simp only [wmS, h32, ↓reduceIte]) rfl rfl K
  · skip
    refine ev_iload_4 (pc := 35) dX8_mienBy_35 ?_
    refine ev_goto (pc := 37) (tgt := 41) dX8_mienBy_37 (by decide) ?_
    refine ev_istore_n_3 (pc := 41) dX8_mienBy_41 (by decide) ?_
    refine ev_iinc_4 (pc := 42) (v := nI ((i + 1) + 1)) dX8_mienBy_42 (nI_inc (i + 1)) (by decide) ?_
    refine ev_goto (pc := 45) (tgt := 5) dX8_mienBy_45 (by decide) ?_
    exact ev_eq (by simp only [wmS, h32, ↓reduceIte]) rfl rfl K
theorem wmS_lt {o : Nat → Int32} {i w : Nat} (hi : i < 3) (hw : w < 4) : wmS o i w < 4 := by unfold wmS; split <;> omega
theorem m_X8_mienBy {S : Scr} (b : Nat) (hb : b < 6) (c : Int32) (hc : c = 0 ∨ c = 1) (σ : Sto) : Mt S yX8_mienBy cX8_mienBy 5 (some .int) 2 [.ref 117, .int (nI b), .int c] σ (Is (some (.int (mienD (fun p => σ.1 118 (4 * b + p)) (σ.1 119 b) (σ.1 129) c))) σ) := by
  refine mt_of (ls := [.ref 117, .int (nI b), .int c, .null, .null]) (by decide) rfl (Nat.le_of_ble_eq_true rfl) (by simp [Value.category]) ?_
  have hw1 := wmS_lt (o := offM σ b c) (i := 0) (w := 0) (by decide) (by decide)
  have hw2 := wmS_lt (o := offM σ b c) (i := 1) (by decide) hw1
  have hw3 : wmB (offM σ b c) < 4 := wmS_lt (i := 2) (by decide) hw2
  rw [mienD_O, ← mien_eq]
  refine ev_iconst (pc := 0) (v := 0) dX8_mienBy_0 (by decide) ?_
  refine ev_istore_n_3 (pc := 1) dX8_mienBy_1 (by decide) ?_
  refine ev_iconst (pc := 2) (v := 1) dX8_mienBy_2 (by decide) ?_
  refine ev_istore_4 (pc := 3) dX8_mienBy_3 (by decide) ?_
  refine b_X8_mienBy b hb c hc 0 (by decide) 0 (by decide) σ ?_
  refine b_X8_mienBy b hb c hc 1 (by decide) _ hw1 σ ?_
  refine b_X8_mienBy b hb c hc 2 (by decide) _ hw2 σ ?_
  refine ev_iload_4 (pc := 5) dX8_mienBy_5 ?_
  refine ev_iconst (pc := 7) (v := 4) dX8_mienBy_7 (by decide) ?_
  refine ev_icmp_ge (pc := 8) (tgt := 48) dX8_mienBy_8 (by decide) (fun h8 => ?_) (fun h8 => by exact absurd h8 (by decide))
  refine ev_aload_n_0 (pc := 48) dX8_mienBy_48 ?_
  refine ev_iload_n_1 (pc := 49) dX8_mienBy_49 ?_
  refine ev_iload_n_3 (pc := 50) dX8_mienBy_50 ?_
  refine ev_iload_n_2 (pc := 51) dX8_mienBy_51 ?_
  refine ev_callV1 (pc := 52) dX8_mienBy_52 ml_X8_127 (m_X8_offOf b hb (wmB (offM σ b c)) hw3 c hc σ) (by decide) ⟨_, rfl, rfl⟩ rfl (by decide) rfl (Nat.le_of_ble_eq_true rfl) ?_
  refine ev_istore_4 (pc := 55) dX8_mienBy_55 (by decide) ?_
  refine ev_iload_4 (pc := 57) dX8_mienBy_57 ?_
  refine ev_callS1 (pc := 59) dX8_mienBy_59 ml_X8_130 (m_X8_far _ σ) rfl (by decide) rfl (Nat.le_of_ble_eq_true rfl) ?_
  refine ev_aload_n_0 (pc := 62) dX8_mienBy_62 ?_
  refine ev_getR (pc := 63) (r := 119) dX8_mienBy_63 fl_X8_13 (by decide) (by decide) (by decide) (by decide) ?_
  refine ev_iload_n_1 (pc := 66) dX8_mienBy_66 ?_
  refine ev_iaload' (pc := 67) (j := b) dX8_mienBy_67 (by decide) (by decide) (show vp_in _ 6 from (vp_in_nI (by omega) (by decide))) (nI_clamp (by omega)) ?_
  refine ev_icmp_gt (pc := 68) (tgt := 75) dX8_mienBy_68 (by decide) (fun h68 => ?_) (fun h68 => ?_)
  · skip
    refine ev_iload_4 (pc := 75) dX8_mienBy_75 ?_
    refine ev_if_le (pc := 77) (tgt := 88) dX8_mienBy_77 (by decide) (fun h77 => ?_) (fun h77 => ?_)
    · skip
      refine ev_iconst (pc := 88) (v := 2) dX8_mienBy_88 (by decide) ?_
      refine ev_iconst (pc := 89) (v := 2) dX8_mienBy_89 (by decide) ?_
      refine ev_iload_n_3 (pc := 90) dX8_mienBy_90 ?_
      refine ev_imulc (pc := 91) (v := nI (2 * (wmB (offM σ b c)))) dX8_mienBy_91 (nI_mul 2 (wmB (offM σ b c))) ?_
      refine ev_iaddc (pc := 92) (v := nI (2 + (2 * (wmB (offM σ b c))))) dX8_mienBy_92 (nI_add 2 (2 * (wmB (offM σ b c)))) ?_
      exact ev_ireturn (pc := 93) dX8_mienBy_93 rfl rfl (⟨by rw [mienM, if_pos h68, if_pos h77], rfl⟩)
    · skip
      refine ev_iconst (pc := 80) (v := 1) dX8_mienBy_80 (by decide) ?_
      refine ev_iconst (pc := 81) (v := 2) dX8_mienBy_81 (by decide) ?_
      refine ev_iload_n_3 (pc := 82) dX8_mienBy_82 ?_
      refine ev_imulc (pc := 83) (v := nI (2 * (wmB (offM σ b c)))) dX8_mienBy_83 (nI_mul 2 (wmB (offM σ b c))) ?_
      refine ev_iaddc (pc := 84) (v := nI (1 + (2 * (wmB (offM σ b c))))) dX8_mienBy_84 (nI_add 1 (2 * (wmB (offM σ b c)))) ?_
      refine ev_goto (pc := 85) (tgt := 93) dX8_mienBy_85 (by decide) ?_
      exact ev_ireturn (pc := 93) dX8_mienBy_93 rfl rfl (⟨by rw [mienM, if_pos h68, if_neg h77], rfl⟩)
  · skip
    refine ev_iconst (pc := 71) (v := 0) dX8_mienBy_71 (by decide) ?_
    refine ev_goto (pc := 72) (tgt := 93) dX8_mienBy_72 (by decide) ?_
    exact ev_ireturn (pc := 93) dX8_mienBy_93 rfl rfl (⟨by rw [mienM, if_neg h68], rfl⟩)
/-- what is tried now is the scene s -/
def nwR (A : Abs) (σ : Sto) (s : Scn) : Prop := aN A ≤ 6 ∧ brM A σ ∧ mrow σ 129 0 (aN A) s ∧ okS s
theorem cld_list {f : Nat → Int32} (h : ∀ b, b < 6 → f b = 0 ∨ f b = 1) : ∃ a b c d e g, a < 2 ∧ b < 2 ∧ c < 2 ∧ d < 2 ∧ e < 2 ∧ g < 2 ∧ ∀ i, i < 6 → f i = nI ([a, b, c, d, e, g].getD i 0) := by
  have h1 : ∀ b, b < 6 → ∃ v, v < 2 ∧ f b = nI v := fun b hb => (h b hb).elim (fun e => ⟨0, by decide, e⟩) (fun e => ⟨1, by decide, e⟩)
  obtain ⟨a, a1, a2⟩ := h1 0 (by decide)
  obtain ⟨b, b1, b2⟩ := h1 1 (by decide)
  obtain ⟨c, c1, c2⟩ := h1 2 (by decide)
  obtain ⟨d, d1, d2⟩ := h1 3 (by decide)
  obtain ⟨e, e1, e2⟩ := h1 4 (by decide)
  obtain ⟨g, g1, g2⟩ := h1 5 (by decide)
  refine ⟨a, b, c, d, e, g, a1, b1, c1, d1, e1, g1, fun i hi => ?_⟩
  match i, hi with
  | 0, _ => exact a2
  | 1, _ => exact b2
  | 2, _ => exact c2
  | 3, _ => exact d2
  | 4, _ => exact e2
  | 5, _ => exact g2
theorem bit_t0 : ∀ m, m < 64 → ∀ k, k < 6 → (cldD (fun i => nI (m / 2 ^ i % 2)) >>> (nI k &&& 31) &&& 1) = nI (m / 2 ^ k % 2) := by decide +kernel
theorem cld_num {f : Nat → Int32} (h : ∀ b, b < 6 → f b = 0 ∨ f b = 1) : ∃ m, m < 64 ∧ ∀ i, i < 6 → f i = nI (m / 2 ^ i % 2) := by
  obtain ⟨a, b, c, d, e, g, a1, b1, c1, d1, e1, g1, hh⟩ := cld_list h
  refine ⟨a + 2 * b + 4 * c + 8 * d + 16 * e + 32 * g, by omega, fun i hi => (hh i hi).trans (congrArg nI ?_)⟩
  match i, hi with
  | 0, _ => show a = _; omega
  | 1, _ => show b = _; omega
  | 2, _ => show c = _; omega
  | 3, _ => show d = _; omega
  | 4, _ => show e = _; omega
  | 5, _ => show g = _; omega
theorem cld_bit {f : Nat → Int32} (h : ∀ b, b < 6 → f b = 0 ∨ f b = 1) {k : Nat} (hk : k < 6) : cldD f >>> (nI k &&& 31) &&& 1 = f k := by
  obtain ⟨m, hm, hh⟩ := cld_num h
  rw [cldD_congr hh, hh k hk]
  exact bit_t0 m hm k hk
theorem cld_has {f : Nat → Int32} (h : ∀ b, b < 6 → f b = 0 ∨ f b = 1) {k : Nat} (hk : k < 6) : bI (bit (cldD f) k) = f k := by
  unfold bit
  rw [cld_bit h hk]
  rcases h k hk with e | e
  · rw [e]; rfl
  · rw [e]; rfl
theorem nwR.mienE {A : Abs} {σ : Sto} {s : Scn} (h : nwR A σ s) {b : Nat} (hb : b < aN A) : mienD (fun p => σ.1 118 (4 * b + p)) (σ.1 119 b) (σ.1 129) (s.2.1 b) = mienD (aL A b) (aB A b) s.1 (s.2.1 b) := by
  rw [(h.2.1.2 b hb).2]
  exact mienD_congr (h.2.1.2 b hb).1 (fun p hp => by have := h.2.2.1.1 p hp; rw [Nat.zero_add] at this; exact this)
theorem nwR.mindE {A : Abs} {σ : Sto} {s : Scn} (h : nwR A σ s) {b : Nat} (hb : b < aN A) : mindD (fun p => σ.1 118 (4 * b + p)) (σ.1 129) (s.2.1 b) = mindD (aL A b) s.1 (s.2.1 b) :=
  mindD_congr (h.2.1.2 b hb).1 (fun p hp => by have := h.2.2.1.1 p hp; rw [Nat.zero_add] at this; exact this)
theorem nwR.c01 {A : Abs} {σ : Sto} {s : Scn} (h : nwR A σ s) {b : Nat} (hb : b < aN A) : s.2.1 b = 0 ∨ s.2.1 b = 1 := h.2.2.2.2 b (by have := h.1; omega)
set_option maxRecDepth 100000 in
theorem m_X8_mien {S : Scr} {A : Abs} {s : Scn} (b : Nat) (hb : b < aN A) (σ : Sto) (h : nwR A σ s) : Mt S yX8_mien cX8_mien 2 (some .int) 3 [.ref 117, .int (nI b)] σ (Is (some (.int (mienD (aL A b) (aB A b) s.1 (s.2.1 b)))) σ) := by
  refine mt_of (ls := [.ref 117, .int (nI b)]) (by decide) rfl (Nat.le_of_ble_eq_true rfl) (by simp [Value.category]) ?_
  have hb6 : b < 6 := Nat.lt_of_lt_of_le hb h.1
  have e4 : σ.1 129 4 = cldD s.2.1 := h.2.2.1.2.1
  refine ev_aload_n_0 (pc := 0) dX8_mien_0 ?_
  refine ev_iload_n_1 (pc := 1) dX8_mien_1 ?_
  refine ev_aload_n_0 (pc := 2) dX8_mien_2 ?_
  refine ev_getR (pc := 3) (r := 129) dX8_mien_3 fl_X8_44 (by decide) (by decide) (by decide) (by decide) ?_
  refine ev_iconst (pc := 6) (v := 4) dX8_mien_6 (by decide) ?_
  refine ev_iaload' (pc := 7) (j := 4) dX8_mien_7 (by decide) (by decide) (show vp_in _ 11 from (vin_c (by decide))) (by decide) ?_
  refine ev_iload_n_1 (pc := 8) dX8_mien_8 ?_
  rw [e4]
  refine ev_callS1 (pc := 9) dX8_mien_9 ml_X8_133 (m_X8_has _ b σ) rfl (by decide) rfl (Nat.le_of_ble_eq_true rfl) ?_
  rw [cld_has h.2.2.2.2 hb6]
  refine ev_callV1 (pc := 12) dX8_mien_12 ml_X8_137 (m_X8_mienBy b hb6 _ (h.c01 hb) σ) (by decide) ⟨_, rfl, rfl⟩ rfl (by decide) rfl (Nat.le_of_ble_eq_true rfl) ?_
  exact ev_ireturn (pc := 15) dX8_mien_15 rfl rfl (⟨by rw [h.mienE hb], rfl⟩)
set_option maxRecDepth 100000 in
theorem m_X8_mind {S : Scr} {A : Abs} {s : Scn} (b : Nat) (hb : b < aN A) (σ : Sto) (h : nwR A σ s) : Mt S yX8_mind cX8_mind 4 (some .int) 2 [.ref 117, .int (nI b)] σ (Is (some (.int (mindD (aL A b) s.1 (s.2.1 b)))) σ) := by
  refine mt_of (ls := [.ref 117, .int (nI b), .null, .null]) (by decide) rfl (Nat.le_of_ble_eq_true rfl) (by simp [Value.category]) ?_
  have hb6 : b < 6 := Nat.lt_of_lt_of_le hb h.1
  have e4 : σ.1 129 4 = cldD s.2.1 := h.2.2.1.2.1
  refine ev_iconst (pc := 0) (v := 0) dX8_mind_0 (by decide) ?_
  refine ev_istore_n_2 (pc := 1) dX8_mind_1 (by decide) ?_
  refine ev_iconst (pc := 2) (v := 0) dX8_mind_2 (by decide) ?_
  refine ev_istore_n_3 (pc := 3) dX8_mind_3 (by decide) ?_
  refine ev_iload_n_3 (pc := 4) dX8_mind_4 ?_
  refine ev_iconst (pc := 5) (v := 4) dX8_mind_5 (by decide) ?_
  refine ev_icmp_ge (pc := 6) (tgt := 37) dX8_mind_6 (by decide) (fun h6 => by exact absurd h6 (by decide)) (fun h6 => ?_)
  refine ev_iload_n_2 (pc := 9) dX8_mind_9 ?_
  refine ev_aload_n_0 (pc := 10) dX8_mind_10 ?_
  refine ev_iload_n_1 (pc := 11) dX8_mind_11 ?_
  refine ev_iload_n_3 (pc := 12) dX8_mind_12 ?_
  refine ev_aload_n_0 (pc := 13) dX8_mind_13 ?_
  refine ev_getR (pc := 14) (r := 129) dX8_mind_14 fl_X8_44 (by decide) (by decide) (by decide) (by decide) ?_
  refine ev_iconst (pc := 17) (v := 4) dX8_mind_17 (by decide) ?_
  refine ev_iaload' (pc := 18) (j := 4) dX8_mind_18 (by decide) (by decide) (show vp_in _ 11 from (vin_c (by decide))) (by decide) ?_
  refine ev_iload_n_1 (pc := 19) dX8_mind_19 ?_
  rw [e4]
  refine ev_callS1 (pc := 20) dX8_mind_20 ml_X8_133 (m_X8_has _ b σ) rfl (by decide) rfl (Nat.le_of_ble_eq_true rfl) ?_
  rw [cld_has h.2.2.2.2 hb6]
  refine ev_callV1 (pc := 23) dX8_mind_23 ml_X8_127 (m_X8_offOf b hb6 0 (by decide) _ (h.c01 hb) σ) (by decide) ⟨_, rfl, rfl⟩ rfl (by decide) rfl (Nat.le_of_ble_eq_true rfl) ?_
  refine ev_callS1 (pc := 26) dX8_mind_26 ml_X8_130 (m_X8_far _ σ) rfl (by decide) rfl (Nat.le_of_ble_eq_true rfl) ?_
  rw [fr_ab]
  refine ev_iadd (pc := 29) dX8_mind_29 ?_
  refine ev_istore_n_2 (pc := 30) dX8_mind_30 (by decide) ?_
  refine ev_iinc_3 (pc := 31) (v := 1) dX8_mind_31 (by decide) (by decide) ?_
  refine ev_goto (pc := 34) (tgt := 4) dX8_mind_34 (by decide) ?_
  refine ev_iload_n_3 (pc := 4) dX8_mind_4 ?_
  refine ev_iconst (pc := 5) (v := 4) dX8_mind_5 (by decide) ?_
  refine ev_icmp_ge (pc := 6) (tgt := 37) dX8_mind_6 (by decide) (fun h6 => by exact absurd h6 (by decide)) (fun h6 => ?_)
  refine ev_iload_n_2 (pc := 9) dX8_mind_9 ?_
  refine ev_aload_n_0 (pc := 10) dX8_mind_10 ?_
  refine ev_iload_n_1 (pc := 11) dX8_mind_11 ?_
  refine ev_iload_n_3 (pc := 12) dX8_mind_12 ?_
  refine ev_aload_n_0 (pc := 13) dX8_mind_13 ?_
  refine ev_getR (pc := 14) (r := 129) dX8_mind_14 fl_X8_44 (by decide) (by decide) (by decide) (by decide) ?_
  refine ev_iconst (pc := 17) (v := 4) dX8_mind_17 (by decide) ?_
  refine ev_iaload' (pc := 18) (j := 4) dX8_mind_18 (by decide) (by decide) (show vp_in _ 11 from (vin_c (by decide))) (by decide) ?_
  refine ev_iload_n_1 (pc := 19) dX8_mind_19 ?_
  rw [e4]
  refine ev_callS1 (pc := 20) dX8_mind_20 ml_X8_133 (m_X8_has _ b σ) rfl (by decide) rfl (Nat.le_of_ble_eq_true rfl) ?_
  rw [cld_has h.2.2.2.2 hb6]
  refine ev_callV1 (pc := 23) dX8_mind_23 ml_X8_127 (m_X8_offOf b hb6 1 (by decide) _ (h.c01 hb) σ) (by decide) ⟨_, rfl, rfl⟩ rfl (by decide) rfl (Nat.le_of_ble_eq_true rfl) ?_
  refine ev_callS1 (pc := 26) dX8_mind_26 ml_X8_130 (m_X8_far _ σ) rfl (by decide) rfl (Nat.le_of_ble_eq_true rfl) ?_
  rw [fr_ab]
  refine ev_iadd (pc := 29) dX8_mind_29 ?_
  refine ev_istore_n_2 (pc := 30) dX8_mind_30 (by decide) ?_
  refine ev_iinc_3 (pc := 31) (v := 2) dX8_mind_31 (by decide) (by decide) ?_
  refine ev_goto (pc := 34) (tgt := 4) dX8_mind_34 (by decide) ?_
  refine ev_iload_n_3 (pc := 4) dX8_mind_4 ?_
  refine ev_iconst (pc := 5) (v := 4) dX8_mind_5 (by decide) ?_
  refine ev_icmp_ge (pc := 6) (tgt := 37) dX8_mind_6 (by decide) (fun h6 => by exact absurd h6 (by decide)) (fun h6 => ?_)
  refine ev_iload_n_2 (pc := 9) dX8_mind_9 ?_
  refine ev_aload_n_0 (pc := 10) dX8_mind_10 ?_
  refine ev_iload_n_1 (pc := 11) dX8_mind_11 ?_
  refine ev_iload_n_3 (pc := 12) dX8_mind_12 ?_
  refine ev_aload_n_0 (pc := 13) dX8_mind_13 ?_
  refine ev_getR (pc := 14) (r := 129) dX8_mind_14 fl_X8_44 (by decide) (by decide) (by decide) (by decide) ?_
  refine ev_iconst (pc := 17) (v := 4) dX8_mind_17 (by decide) ?_
  refine ev_iaload' (pc := 18) (j := 4) dX8_mind_18 (by decide) (by decide) (show vp_in _ 11 from (vin_c (by decide))) (by decide) ?_
  refine ev_iload_n_1 (pc := 19) dX8_mind_19 ?_
  rw [e4]
  refine ev_callS1 (pc := 20) dX8_mind_20 ml_X8_133 (m_X8_has _ b σ) rfl (by decide) rfl (Nat.le_of_ble_eq_true rfl) ?_
  rw [cld_has h.2.2.2.2 hb6]
  refine ev_callV1 (pc := 23) dX8_mind_23 ml_X8_127 (m_X8_offOf b hb6 2 (by decide) _ (h.c01 hb) σ) (by decide) ⟨_, rfl, rfl⟩ rfl (by decide) rfl (Nat.le_of_ble_eq_true rfl) ?_
  refine ev_callS1 (pc := 26) dX8_mind_26 ml_X8_130 (m_X8_far _ σ) rfl (by decide) rfl (Nat.le_of_ble_eq_true rfl) ?_
  rw [fr_ab]
  refine ev_iadd (pc := 29) dX8_mind_29 ?_
  refine ev_istore_n_2 (pc := 30) dX8_mind_30 (by decide) ?_
  refine ev_iinc_3 (pc := 31) (v := 3) dX8_mind_31 (by decide) (by decide) ?_
  refine ev_goto (pc := 34) (tgt := 4) dX8_mind_34 (by decide) ?_
  refine ev_iload_n_3 (pc := 4) dX8_mind_4 ?_
  refine ev_iconst (pc := 5) (v := 4) dX8_mind_5 (by decide) ?_
  refine ev_icmp_ge (pc := 6) (tgt := 37) dX8_mind_6 (by decide) (fun h6 => by exact absurd h6 (by decide)) (fun h6 => ?_)
  refine ev_iload_n_2 (pc := 9) dX8_mind_9 ?_
  refine ev_aload_n_0 (pc := 10) dX8_mind_10 ?_
  refine ev_iload_n_1 (pc := 11) dX8_mind_11 ?_
  refine ev_iload_n_3 (pc := 12) dX8_mind_12 ?_
  refine ev_aload_n_0 (pc := 13) dX8_mind_13 ?_
  refine ev_getR (pc := 14) (r := 129) dX8_mind_14 fl_X8_44 (by decide) (by decide) (by decide) (by decide) ?_
  refine ev_iconst (pc := 17) (v := 4) dX8_mind_17 (by decide) ?_
  refine ev_iaload' (pc := 18) (j := 4) dX8_mind_18 (by decide) (by decide) (show vp_in _ 11 from (vin_c (by decide))) (by decide) ?_
  refine ev_iload_n_1 (pc := 19) dX8_mind_19 ?_
  rw [e4]
  refine ev_callS1 (pc := 20) dX8_mind_20 ml_X8_133 (m_X8_has _ b σ) rfl (by decide) rfl (Nat.le_of_ble_eq_true rfl) ?_
  rw [cld_has h.2.2.2.2 hb6]
  refine ev_callV1 (pc := 23) dX8_mind_23 ml_X8_127 (m_X8_offOf b hb6 3 (by decide) _ (h.c01 hb) σ) (by decide) ⟨_, rfl, rfl⟩ rfl (by decide) rfl (Nat.le_of_ble_eq_true rfl) ?_
  refine ev_callS1 (pc := 26) dX8_mind_26 ml_X8_130 (m_X8_far _ σ) rfl (by decide) rfl (Nat.le_of_ble_eq_true rfl) ?_
  rw [fr_ab]
  refine ev_iadd (pc := 29) dX8_mind_29 ?_
  refine ev_istore_n_2 (pc := 30) dX8_mind_30 (by decide) ?_
  refine ev_iinc_3 (pc := 31) (v := 4) dX8_mind_31 (by decide) (by decide) ?_
  refine ev_goto (pc := 34) (tgt := 4) dX8_mind_34 (by decide) ?_
  refine ev_iload_n_3 (pc := 4) dX8_mind_4 ?_
  refine ev_iconst (pc := 5) (v := 4) dX8_mind_5 (by decide) ?_
  refine ev_icmp_ge (pc := 6) (tgt := 37) dX8_mind_6 (by decide) (fun h6 => ?_) (fun h6 => by exact absurd h6 (by decide))
  refine ev_iload_n_2 (pc := 37) dX8_mind_37 ?_
  exact ev_ireturn (pc := 38) dX8_mind_38 rfl rfl (⟨by rw [← h.mindE hb]; rfl, rfl⟩)
set_option maxRecDepth 100000 in
theorem m_X8_inPot {S : Scr} {A : Abs} {s : Scn} (σ : Sto) (h : nwR A σ s) : Mt S yX8_inPot cX8_inPot 3 (some .int) 0 [.ref 117] σ (Is (some (.int (totA s))) σ) := by
  refine mt_of (ls := [.ref 117, .null, .null]) (by decide) rfl (Nat.le_of_ble_eq_true rfl) (by simp [Value.category]) ?_
  refine ev_iconst (pc := 0) (v := 0) dX8_inPot_0 (by decide) ?_
  refine ev_istore_n_1 (pc := 1) dX8_inPot_1 (by decide) ?_
  refine ev_iconst (pc := 2) (v := 0) dX8_inPot_2 (by decide) ?_
  refine ev_istore_n_2 (pc := 3) dX8_inPot_3 (by decide) ?_
  refine ev_iload_n_2 (pc := 4) dX8_inPot_4 ?_
  refine ev_iconst (pc := 5) (v := 4) dX8_inPot_5 (by decide) ?_
  refine ev_icmp_ge (pc := 6) (tgt := 26) dX8_inPot_6 (by decide) (fun h6 => by exact absurd h6 (by decide)) (fun h6 => ?_)
  refine ev_iload_n_1 (pc := 9) dX8_inPot_9 ?_
  refine ev_aload_n_0 (pc := 10) dX8_inPot_10 ?_
  refine ev_getR (pc := 11) (r := 129) dX8_inPot_11 fl_X8_44 (by decide) (by decide) (by decide) (by decide) ?_
  refine ev_iconst (pc := 14) (v := 0) dX8_inPot_14 (by decide) ?_
  refine ev_iload_n_2 (pc := 15) dX8_inPot_15 ?_
  refine ev_iaddc (pc := 16) (v := 0) dX8_inPot_16 (by decide) ?_
  refine ev_iaload' (pc := 17) (j := 0) dX8_inPot_17 (by decide) (by decide) (show vp_in _ 11 from (vin_c (by decide))) (by decide) ?_
  refine ev_iadd (pc := 18) dX8_inPot_18 ?_
  refine ev_istore_n_1 (pc := 19) dX8_inPot_19 (by decide) ?_
  refine ev_iinc_2 (pc := 20) (v := 1) dX8_inPot_20 (by decide) (by decide) ?_
  refine ev_goto (pc := 23) (tgt := 4) dX8_inPot_23 (by decide) ?_
  refine ev_iload_n_2 (pc := 4) dX8_inPot_4 ?_
  refine ev_iconst (pc := 5) (v := 4) dX8_inPot_5 (by decide) ?_
  refine ev_icmp_ge (pc := 6) (tgt := 26) dX8_inPot_6 (by decide) (fun h6 => by exact absurd h6 (by decide)) (fun h6 => ?_)
  refine ev_iload_n_1 (pc := 9) dX8_inPot_9 ?_
  refine ev_aload_n_0 (pc := 10) dX8_inPot_10 ?_
  refine ev_getR (pc := 11) (r := 129) dX8_inPot_11 fl_X8_44 (by decide) (by decide) (by decide) (by decide) ?_
  refine ev_iconst (pc := 14) (v := 0) dX8_inPot_14 (by decide) ?_
  refine ev_iload_n_2 (pc := 15) dX8_inPot_15 ?_
  refine ev_iaddc (pc := 16) (v := 1) dX8_inPot_16 (by decide) ?_
  refine ev_iaload' (pc := 17) (j := 1) dX8_inPot_17 (by decide) (by decide) (show vp_in _ 11 from (vin_c (by decide))) (by decide) ?_
  refine ev_iadd (pc := 18) dX8_inPot_18 ?_
  refine ev_istore_n_1 (pc := 19) dX8_inPot_19 (by decide) ?_
  refine ev_iinc_2 (pc := 20) (v := 2) dX8_inPot_20 (by decide) (by decide) ?_
  refine ev_goto (pc := 23) (tgt := 4) dX8_inPot_23 (by decide) ?_
  refine ev_iload_n_2 (pc := 4) dX8_inPot_4 ?_
  refine ev_iconst (pc := 5) (v := 4) dX8_inPot_5 (by decide) ?_
  refine ev_icmp_ge (pc := 6) (tgt := 26) dX8_inPot_6 (by decide) (fun h6 => by exact absurd h6 (by decide)) (fun h6 => ?_)
  refine ev_iload_n_1 (pc := 9) dX8_inPot_9 ?_
  refine ev_aload_n_0 (pc := 10) dX8_inPot_10 ?_
  refine ev_getR (pc := 11) (r := 129) dX8_inPot_11 fl_X8_44 (by decide) (by decide) (by decide) (by decide) ?_
  refine ev_iconst (pc := 14) (v := 0) dX8_inPot_14 (by decide) ?_
  refine ev_iload_n_2 (pc := 15) dX8_inPot_15 ?_
  refine ev_iaddc (pc := 16) (v := 2) dX8_inPot_16 (by decide) ?_
  refine ev_iaload' (pc := 17) (j := 2) dX8_inPot_17 (by decide) (by decide) (show vp_in _ 11 from (vin_c (by decide))) (by decide) ?_
  refine ev_iadd (pc := 18) dX8_inPot_18 ?_
  refine ev_istore_n_1 (pc := 19) dX8_inPot_19 (by decide) ?_
  refine ev_iinc_2 (pc := 20) (v := 3) dX8_inPot_20 (by decide) (by decide) ?_
  refine ev_goto (pc := 23) (tgt := 4) dX8_inPot_23 (by decide) ?_
  refine ev_iload_n_2 (pc := 4) dX8_inPot_4 ?_
  refine ev_iconst (pc := 5) (v := 4) dX8_inPot_5 (by decide) ?_
  refine ev_icmp_ge (pc := 6) (tgt := 26) dX8_inPot_6 (by decide) (fun h6 => by exact absurd h6 (by decide)) (fun h6 => ?_)
  refine ev_iload_n_1 (pc := 9) dX8_inPot_9 ?_
  refine ev_aload_n_0 (pc := 10) dX8_inPot_10 ?_
  refine ev_getR (pc := 11) (r := 129) dX8_inPot_11 fl_X8_44 (by decide) (by decide) (by decide) (by decide) ?_
  refine ev_iconst (pc := 14) (v := 0) dX8_inPot_14 (by decide) ?_
  refine ev_iload_n_2 (pc := 15) dX8_inPot_15 ?_
  refine ev_iaddc (pc := 16) (v := 3) dX8_inPot_16 (by decide) ?_
  refine ev_iaload' (pc := 17) (j := 3) dX8_inPot_17 (by decide) (by decide) (show vp_in _ 11 from (vin_c (by decide))) (by decide) ?_
  refine ev_iadd (pc := 18) dX8_inPot_18 ?_
  refine ev_istore_n_1 (pc := 19) dX8_inPot_19 (by decide) ?_
  refine ev_iinc_2 (pc := 20) (v := 4) dX8_inPot_20 (by decide) (by decide) ?_
  refine ev_goto (pc := 23) (tgt := 4) dX8_inPot_23 (by decide) ?_
  refine ev_iload_n_2 (pc := 4) dX8_inPot_4 ?_
  refine ev_iconst (pc := 5) (v := 4) dX8_inPot_5 (by decide) ?_
  refine ev_icmp_ge (pc := 6) (tgt := 26) dX8_inPot_6 (by decide) (fun h6 => ?_) (fun h6 => by exact absurd h6 (by decide))
  refine ev_iload_n_1 (pc := 26) dX8_inPot_26 ?_
  exact ev_ireturn (pc := 27) dX8_inPot_27 rfl rfl (⟨by have q := h.2.2.1.1; have q0 := q 0 (by decide); have q1 := q 1 (by decide); have q2 := q 2 (by decide); have q3 := q 3 (by decide); show some (Value.int (0 + σ.1 129 (0 + 0) + σ.1 129 (0 + 1) + σ.1 129 (0 + 2) + σ.1 129 (0 + 3))) = _; rw [q0, q1, q2, q3]; rfl, rfl⟩)
