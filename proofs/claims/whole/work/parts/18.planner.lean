/-! ===== the planner: pure words ===== -/
def chN (x d p : Nat) : Nat := let v := if p = 0 then x / 216 else if p = 1 then x / 36 % 6 else if p = 2 then x / 6 % 6 else x % 6
  if d = 4 then v - 1 else if p = d then (if v < 5 then v + 1 else 5) else v
def stp (x d : Nat) : Nat := ((chN x d 0 * 6 + chN x d 1) * 6 + chN x d 2) * 6 + chN x d 3
def chI (x d p : Nat) : Int32 := if d = 4 then mxI 0 (dg x p - 1) else if p = d then mnI 5 (dg x p + 1) else dg x p
theorem stp_t : ∀ d, d < 5 → ∀ x, x < 1296 → stp x d < 1296 ∧ chI x d 0 = dg (stp x d) 0 ∧ chI x d 1 = dg (stp x d) 1 ∧ chI x d 2 = dg (stp x d) 2 ∧ chI x d 3 = dg (stp x d) 3 := by decide +kernel
theorem num_t : ∀ x, x < 1296 → (((0 * 6 + dg x 0) * 6 + dg x 1) * 6 + dg x 2) * 6 + dg x 3 = nI x := by decide +kernel
theorem stp_lt {x d : Nat} (hx : x < 1296) (hd : d < 5) : stp x d < 1296 := (stp_t d hd x hx).1
theorem stp_dg {x d p : Nat} (hx : x < 1296) (hd : d < 5) (hp : p < 4) : chI x d p = dg (stp x d) p := by
  obtain ⟨-, h0, h1, h2, h3⟩ := stp_t d hd x hx
  match p, hp with
  | 0, _ => exact h0
  | 1, _ => exact h1
  | 2, _ => exact h2
  | 3, _ => exact h3
theorem lt5_ne4 : ∀ d, d < 5 → (nI d = 4 ↔ d = 4) ∧ ((¬ nI d < 0 ∧ nI d < 4) ↔ d < 4) := by decide +kernel
theorem chg_at {τ : Sto} {a x d p : Nat} (hd : d < 5) (hp : p < 4) (h : ∀ p, p < 4 → τ.1 a p = dg x p) : (chgW τ a (nI d)).1 a p = chI x d p := by
  obtain ⟨h4, hl⟩ := lt5_ne4 d hd
  unfold chgW chI
  by_cases e : d = 4
  · rw [if_pos (h4.mpr e), if_pos e]
    unfold watW
    match p, hp with
    | 0, _ => simp [watS, wr, h 0 (by decide)]
    | 1, _ => simp [watS, wr, h 1 (by decide)]
    | 2, _ => simp [watS, wr, h 2 (by decide)]
    | 3, _ => simp [watS, wr, h 3 (by decide)]
  · rw [if_neg (fun z => e (h4.mp z)), if_neg e, if_pos (hl.mpr (by omega)), nI_clamp (by omega)]
    unfold addW
    by_cases e2 : p = d
    · rw [if_pos e2, e2, wr_at, h d (by omega)]
    · rw [if_neg e2, wr_nj e2, h p hp]
abbrev PE : Type := Nat × Nat × Nat × Nat × Nat
/-- a pot's number, how many deeds, from where, by which deed, the deeds as a number to the base of five -/
def psh (q : List PE) (e : PE) : List PE := if (∃ e' ∈ q, e'.1 = e.1) ∨ 1296 ≤ q.length then q else q ++ [e]
def dI (d : Nat) : Int32 := if d = 9 then -9 else nI d
/-- the planner's frame -/
def Sp (σ τ : Sto) : Prop := τ.2 = σ.2 ∧ ∀ k j, (k < 19 ∨ 25 ≤ k) → (k < 43 ∨ 47 ≤ k) → (k ≠ 18 ∨ j ≠ 5) → τ.1 k j = σ.1 k j
theorem Sp.rfl' (σ : Sto) : Sp σ σ := ⟨rfl, fun _ _ _ _ _ => rfl⟩
theorem Sp.tr {a b c : Sto} (h : Sp a b) (g : Sp b c) : Sp a c := ⟨g.1.trans h.1, fun k j h1 h2 h3 => (g.2 k j h1 h2 h3).trans (h.2 k j h1 h2 h3)⟩
theorem Sp.fn {σ τ : Sto} (h : Sp σ τ) {k : Nat} (h1 : k < 18 ∨ 25 ≤ k) (h2 : k < 43 ∨ 47 ≤ k) : τ.1 k = σ.1 k := funext fun j => h.2 k j (by omega) h2 (by omega)
def QR (τ : Sto) (q : List PE) : Prop := τ.1 18 5 = nI q.length ∧ q.length ≤ 1296 ∧ (∀ i e, q[i]? = some e → e.1 < 1296 ∧ e.2.1 ≤ 5 ∧ e.2.2.1 < 1296 ∧ τ.1 20 i = nI e.1 ∧ τ.1 21 i = nI e.2.1 ∧ τ.1 22 i = nI e.2.2.1 ∧ τ.1 23 i = dI e.2.2.2.1) ∧ ∀ x, x < 1296 → τ.1 24 x = bI (∃ e ∈ q, e.1 = x)
/-- what the planner leaves behind -/
def PI (τ : Sto) : Prop := ∃ m, m ≤ 1296 ∧ τ.1 18 5 = nI m ∧ (∀ i, i < m → ∃ x, x < 1296 ∧ τ.1 20 i = nI x) ∧ ∀ x, x < 1296 → τ.1 24 x = 0 ∨ (τ.1 24 x = 1 ∧ ∃ i, i < m ∧ τ.1 20 i = nI x)
theorem exE_dec (q : List PE) (x : Nat) : (∃ e ∈ q, e.1 = x) ↔ q.any (fun e => decide (e.1 = x)) = true := by simp [List.any_eq_true]
theorem QR.pi {τ : Sto} {q : List PE} (h : QR τ q) : PI τ := by
  obtain ⟨h1, h2, h3, h4⟩ := h
  refine ⟨q.length, h2, h1, fun i hi => ?_, fun x hx => ?_⟩
  · obtain ⟨e, he⟩ : ∃ e, q[i]? = some e := ⟨q[i], List.getElem?_eq_getElem hi⟩
    exact ⟨e.1, (h3 i e he).1, (h3 i e he).2.2.2.1⟩
  · by_cases hq : ∃ e ∈ q, e.1 = x
    · refine Or.inr ⟨by rw [h4 x hx]; exact bI1.mpr hq, ?_⟩
      obtain ⟨e, he, hx'⟩ := hq
      obtain ⟨i, hi⟩ := List.getElem?_of_mem he
      exact ⟨i, (List.getElem?_eq_some_iff.mp hi).1, by rw [← hx']; exact (h3 i e hi).2.2.2.1⟩
    · exact Or.inl (by rw [h4 x hx]; exact bI0.mpr hq)
def frI (σ : Sto) (m i : Nat) (τ : Sto) : Prop := Sp σ τ ∧ τ.1 18 5 = nI m ∧ (∀ j, τ.1 20 j = σ.1 20 j) ∧ ∀ x, x < 1296 → τ.1 24 x = 0 ∨ (τ.1 24 x = 1 ∧ ∃ j, i ≤ j ∧ j < m ∧ σ.1 20 j = nI x)
theorem nI_inj {a b : Nat} (h : nI a = nI b) (ha : a < 2 ^ 31) (hb : b < 2 ^ 31) : a = b := by
  have := congrArg Int32.toNatClampNeg h
  rwa [nI_clamp ha, nI_clamp hb] at this
set_option maxRecDepth 100000 in
theorem b_X2_forget {S : Scr} (m : Nat) (hm : m ≤ 1296) (i : Nat) (hi : i < m) (σ τ : Sto) (hx : ∀ i, i < m → ∃ x, x < 1296 ∧ σ.1 20 i = nI x) (hI : frI σ m i τ) {Q : Option Value → Sto → Prop} (K : ∀ τ2, frI σ m (i + 1) τ2 → Ev S RX2 cX2_forgetReached 2 none 0 2 [.ref 18, .int (nI (i + 1))] [] τ2 (Q)) : Ev S RX2 cX2_forgetReached 2 none 0 2 [.ref 18, .int (nI i)] [] τ (Q) := by
  obtain ⟨x, hx1, hxe⟩ := hx i hi
  refine ev_iload_n_1 (pc := 2) dX2_forgetReached_2 ?_
  refine ev_aload_n_0 (pc := 3) dX2_forgetReached_3 ?_
  refine ev_getI (pc := 4) dX2_forgetReached_4 fl_X2_49 (by decide) (by decide) (by decide) ?_
  refine ev_icmp_ge (pc := 7) (tgt := 35) dX2_forgetReached_7 (by decide) (fun h7 => by exact absurd h7 (by rw [hI.2.1]; exact nI_ge hi (by omega))) (fun h7 => ?_)
  refine ev_iload_n_1 (pc := 10) dX2_forgetReached_10 ?_
  refine ev_sipush (pc := 11) (v := 1296) dX2_forgetReached_11 (by decide) ?_
  refine ev_icmp_ge (pc := 14) (tgt := 35) dX2_forgetReached_14 (by decide) (fun h14 => by exact absurd h14 (nI_ge (a := i) (b := 1296) (by omega) (by decide))) (fun h14 => ?_)
  refine ev_aload_n_0 (pc := 17) dX2_forgetReached_17 ?_
  refine ev_getR (pc := 18) (r := 24) dX2_forgetReached_18 fl_X2_27 (by decide) (by decide) (by decide) (by decide) ?_
  refine ev_aload_n_0 (pc := 21) dX2_forgetReached_21 ?_
  refine ev_getR (pc := 22) (r := 20) dX2_forgetReached_22 fl_X2_15 (by decide) (by decide) (by decide) (by decide) ?_
  refine ev_iload_n_1 (pc := 25) dX2_forgetReached_25 ?_
  refine ev_iaload' (pc := 26) (j := i) dX2_forgetReached_26 (by decide) (by decide) (show vp_in _ 1296 from (vp_in_nI (by omega) (by decide))) (nI_clamp (by omega)) ?_
  refine ev_iconst (pc := 27) (v := 0) dX2_forgetReached_27 (by decide) ?_
  rw [hI.2.2.1 i, hxe]
  refine ev_bastore' (pc := 28) (j := x) dX2_forgetReached_28 (by decide) (by decide) (show vp_in _ 1296 from (vp_in_nI hx1 (by decide))) (nI_clamp (by omega)) (by decide) ?_
  refine ev_iinc_1 (pc := 29) (v := nI (i + 1)) dX2_forgetReached_29 (nI_inc i) (by decide) ?_
  refine ev_goto (pc := 32) (tgt := 2) dX2_forgetReached_32 (by decide) ?_
  refine K _ ⟨⟨hI.1.1, fun k j h1 h2 h3 => ?_⟩, ?_, fun j => ?_, fun y hy => ?_⟩
  · rw [wr_ne (by omega)]; exact hI.1.2 k j h1 h2 h3
  · rw [wr_ne (by decide)]; exact hI.2.1
  · rw [wr_ne (by decide)]; exact hI.2.2.1 j
  · by_cases e : y = x
    · exact Or.inl (by rw [e, wr_at])
    · rw [wr_nj e]
      rcases hI.2.2.2 y hy with h | ⟨h, j, g1, g2, g3⟩
      · exact Or.inl h
      · refine Or.inr ⟨h, j, ?_, g2, g3⟩
        rcases Nat.lt_or_ge i j with z | z
        · exact z
        · obtain rfl : j = i := by omega
          exact absurd (nI_inj (g3.symm.trans hxe) (by omega) (by omega)) e
theorem m_X2_forget {S : Scr}  (σ : Sto) (hP : PI σ) : Mt S yX2_forgetReached cX2_forgetReached 2 none 0 [.ref 18] σ (fun r τ => r = none ∧ Sp σ τ ∧ QR τ []) := by
  refine mt_of (ls := [.ref 18, .null]) (by decide) rfl (Nat.le_of_ble_eq_true rfl) (by simp [Value.category]) ?_
  obtain ⟨m, hm, hm1, hx, hk⟩ := hP
  refine ev_iconst (pc := 0) (v := 0) dX2_forgetReached_0 (by decide) ?_
  refine ev_istore_n_1 (pc := 1) dX2_forgetReached_1 (by decide) ?_
  have hd : ∀ q i, i + q = m → ∀ τ, frI σ m i τ → Ev S RX2 cX2_forgetReached 2 none 0 2 [.ref 18, .int (nI i)] [] τ (fun r τ => r = none ∧ Sp σ τ ∧ QR τ []) := by
    intro q
    induction q with
    | zero =>
      intro i hi τ hI
      obtain rfl : i = m := by omega
      have hz : ∀ x, x < 1296 → τ.1 24 x = 0 := fun x hx => by
        rcases hI.2.2.2 x hx with h | ⟨-, j, g1, g2, -⟩
        · exact h
        · omega
      refine ev_iload_n_1 (pc := 2) dX2_forgetReached_2 ?_
      refine ev_aload_n_0 (pc := 3) dX2_forgetReached_3 ?_
      refine ev_getI (pc := 4) dX2_forgetReached_4 fl_X2_49 (by decide) (by decide) (by decide) ?_
      refine ev_icmp_ge (pc := 7) (tgt := 35) dX2_forgetReached_7 (by decide) (fun h7 => ?_) (fun h7 => by exact absurd (by rw [hI.2.1]; exact nI_le (Nat.le_refl i) (by omega)) h7)
      refine ev_aload_n_0 (pc := 35) dX2_forgetReached_35 ?_
      refine ev_iconst (pc := 36) (v := 0) dX2_forgetReached_36 (by decide) ?_
      refine ev_putI (pc := 37) dX2_forgetReached_37 fl_X2_49 (by decide) (by decide) (by decide) ?_
      exact ev_return (pc := 40) dX2_forgetReached_40 rfl (⟨rfl, ⟨hI.1.1, fun k j h1 h2 h3 => by by_cases e : k = 18 <;> first | (rw [wr_ne e]; exact hI.1.2 k j h1 h2 h3) | (subst e; rw [wr_nj (by omega)]; exact hI.1.2 18 j h1 h2 h3)⟩, by rw [wr_at]; rfl, by decide, fun i e h => by simp at h, fun x hx => by rw [wr_ne (by decide), hz x hx]; simp [bI]⟩)
    | succ q ih =>
      intro i hi τ hI
      exact b_X2_forget m hm i (by omega) σ τ hx hI (fun τ2 h2 => ih (i + 1) (by omega) τ2 h2)
  exact hd m 0 (by omega) σ ⟨Sp.rfl' σ, hm1, fun _ => rfl, fun x hx => (hk x hx).imp id (fun ⟨a, j, b, c⟩ => ⟨a, j, Nat.zero_le j, b, c⟩)⟩
theorem IsA44 : IsA 44 4 := ⟨by decide, by decide, by decide⟩
theorem reach_leaf {σ : Sto} {q : List PE} {x len f D N : Nat} (hx : x < 1296) (hl : len ≤ 5) (hf : f < 1296) (hQ : QR σ q) (h32 : q.length < 1296) (h42 : ¬ ∃ e ∈ q, e.1 = x) :
    (none : Option Value) = none ∧ Sp σ (wr (wr (wr (wr (wr (wr σ 24 x 1) 20 q.length (nI x)) 21 q.length (nI len)) 22 q.length (nI f)) 23 q.length (dI D)) 18 5 (nI (q.length + 1))) ∧
    (∀ k, 43 ≤ k → k < 47 → (wr (wr (wr (wr (wr (wr σ 24 x 1) 20 q.length (nI x)) 21 q.length (nI len)) 22 q.length (nI f)) 23 q.length (dI D)) 18 5 (nI (q.length + 1))).1 k = σ.1 k) ∧
    (∀ j, (wr (wr (wr (wr (wr (wr σ 24 x 1) 20 q.length (nI x)) 21 q.length (nI len)) 22 q.length (nI f)) 23 q.length (dI D)) 18 5 (nI (q.length + 1))).1 19 j = σ.1 19 j) ∧
    QR (wr (wr (wr (wr (wr (wr σ 24 x 1) 20 q.length (nI x)) 21 q.length (nI len)) 22 q.length (nI f)) 23 q.length (dI D)) 18 5 (nI (q.length + 1))) (psh q (x, len, f, D, N)) := by
  obtain ⟨h1, h2, h3, h4⟩ := hQ
  have e : psh q (x, len, f, D, N) = q ++ [(x, len, f, D, N)] := by unfold psh; rw [if_neg (fun z => by rcases z with z | z; exact h42 z; omega)]
  refine ⟨rfl, ⟨rfl, fun k j g1 g2 g3 => ?_⟩, fun k g1 g2 => ?_, fun j => ?_, ?_⟩
  · by_cases ek : k = 18
    · subst ek
      rw [wr_nj (by omega), wr_ne (by decide), wr_ne (by decide), wr_ne (by decide), wr_ne (by decide), wr_ne (by decide)]
    · rw [wr_ne ek, wr_ne (by omega), wr_ne (by omega), wr_ne (by omega), wr_ne (by omega), wr_ne (by omega)]
  · rw [wr_ne (by omega), wr_ne (by omega), wr_ne (by omega), wr_ne (by omega), wr_ne (by omega), wr_ne (by omega)]
  · rw [wr_ne (by decide), wr_ne (by decide), wr_ne (by decide), wr_ne (by decide), wr_ne (by decide), wr_ne (by decide)]
  · rw [e]
    refine ⟨by rw [wr_at, List.length_append]; rfl, by rw [List.length_append]; simp; omega, fun i e' he => ?_, fun y hy => ?_⟩
    · rcases Nat.lt_or_ge i q.length with z | z
      · rw [List.getElem?_append_left z] at he
        obtain ⟨a1, a2, a3, a4, a5, a6, a7⟩ := h3 i e' he
        have hne : i ≠ q.length := by omega
        refine ⟨a1, a2, a3, ?_, ?_, ?_, ?_⟩
        · rw [wr_ne (by decide), wr_ne (by decide), wr_ne (by decide), wr_ne (by decide), wr_nj hne, wr_ne (by decide)]; exact a4
        · rw [wr_ne (by decide), wr_ne (by decide), wr_ne (by decide), wr_nj hne, wr_ne (by decide), wr_ne (by decide)]; exact a5
        · rw [wr_ne (by decide), wr_ne (by decide), wr_nj hne, wr_ne (by decide), wr_ne (by decide), wr_ne (by decide)]; exact a6
        · rw [wr_ne (by decide), wr_nj hne, wr_ne (by decide), wr_ne (by decide), wr_ne (by decide), wr_ne (by decide)]; exact a7
      · rw [List.getElem?_append_right z] at he
        have hz : i - q.length = 0 := by
          have := (List.getElem?_eq_some_iff.mp he).1
          simp at this; omega
        rw [hz] at he
        obtain rfl : i = q.length := by omega
        cases he
        refine ⟨hx, hl, hf, ?_, ?_, ?_, ?_⟩
        · rw [wr_ne (by decide), wr_ne (by decide), wr_ne (by decide), wr_ne (by decide), wr_at]
        · rw [wr_ne (by decide), wr_ne (by decide), wr_ne (by decide), wr_at]
        · rw [wr_ne (by decide), wr_ne (by decide), wr_at]
        · rw [wr_ne (by decide), wr_at]
    · rw [wr_ne (by decide), wr_ne (by decide), wr_ne (by decide), wr_ne (by decide), wr_ne (by decide)]
      by_cases ey : y = x
      · rw [ey, wr_at]; exact (bI1.mpr ⟨_, List.mem_append_right _ List.mem_cons_self, rfl⟩).symm
      · rw [wr_nj ey, h4 y hy]
        refine bI_iff ⟨fun ⟨a, b, c⟩ => ⟨a, List.mem_append_left _ b, c⟩, fun ⟨a, b, c⟩ => ?_⟩
        rcases List.mem_append.mp b with z | z
        · exact ⟨a, z, c⟩
        · rw [List.mem_singleton.mp z] at c
          exact absurd c.symm ey
theorem m_X2_reach {S : Scr} (q : List PE) (x len f D N : Nat) (hx : x < 1296) (hl : len ≤ 5) (hf : f < 1296) (σ : Sto) (hQ : QR σ q) (hp : ∀ p, p < 4 → σ.1 44 p = dg x p) : Mt S yX2_reach cX2_reach 5 none 1 [.ref 18, .int (nI len), .int (nI f), .int (dI D)] σ (fun r τ => r = none ∧ Sp σ τ ∧ (∀ k, 43 ≤ k → k < 47 → τ.1 k = σ.1 k) ∧ (∀ j, τ.1 19 j = σ.1 19 j) ∧ QR τ (psh q (x, len, f, D, N))) := by
  refine mt_of (ls := [.ref 18, .int (nI len), .int (nI f), .int (dI D), .null]) (by decide) rfl (Nat.le_of_ble_eq_true rfl) (by simp [Value.category]) ?_
  have hl0 := hQ.1
  have hlen := hQ.2.1
  refine ev_aload_n_0 (pc := 0) dX2_reach_0 ?_
  refine ev_getR (pc := 1) (r := 43) dX2_reach_1 fl_X2_34 (by decide) (by decide) (by decide) (by decide) ?_
  refine ev_getR (pc := 4) (r := 44) dX2_reach_4 fl_X2_53 (by decide) (by decide) (by decide) (by decide) ?_
  refine ev_callN1 (pc := 7) dX2_reach_7 mn_X2_77 (m_X7_numberOf IsA44 σ) rfl (by decide) rfl (Nat.le_of_ble_eq_true rfl) ?_
  rw [hp 0 (by decide), hp 1 (by decide), hp 2 (by decide), hp 3 (by decide), num_t x hx]
  refine ev_istore_4 (pc := 10) dX2_reach_10 (by decide) ?_
  refine ev_iload_4 (pc := 12) dX2_reach_12 ?_
  refine ev_if_lt (pc := 14) (tgt := 45) dX2_reach_14 (by decide) (fun h14 => by exact absurd h14 (nI_pos (by omega))) (fun h14 => ?_)
  refine ev_iload_4 (pc := 17) dX2_reach_17 ?_
  refine ev_sipush (pc := 19) (v := 1296) dX2_reach_19 (by decide) ?_
  refine ev_icmp_ge (pc := 22) (tgt := 45) dX2_reach_22 (by decide) (fun h22 => by exact absurd h22 (nI_ge (a := x) (b := 1296) hx (by decide))) (fun h22 => ?_)
  refine ev_aload_n_0 (pc := 25) dX2_reach_25 ?_
  refine ev_getI (pc := 26) dX2_reach_26 fl_X2_49 (by decide) (by decide) (by decide) ?_
  refine ev_sipush (pc := 29) (v := 1296) dX2_reach_29 (by decide) ?_
  refine ev_icmp_ge (pc := 32) (tgt := 45) dX2_reach_32 (by decide) (fun h32 => ?_) (fun h32 => ?_)
  · skip
    exact ev_return (pc := 45) dX2_reach_45 rfl (⟨rfl, Sp.rfl' σ, fun _ _ _ => rfl, fun _ => rfl, by unfold psh; rw [if_pos (Or.inr (by rcases Nat.lt_or_ge q.length 1296 with z | z; exact absurd h32 (by rw [hl0]; exact nI_ge z (by decide)); exact z))]; exact hQ⟩)
  · skip
    refine ev_aload_n_0 (pc := 35) dX2_reach_35 ?_
    refine ev_getR (pc := 36) (r := 24) dX2_reach_36 fl_X2_27 (by decide) (by decide) (by decide) (by decide) ?_
    refine ev_iload_4 (pc := 39) dX2_reach_39 ?_
    refine ev_baload' (pc := 41) (j := x) dX2_reach_41 (by decide) (by decide) (show vp_in _ 1296 from (vp_in_nI hx (by decide))) (nI_clamp (by omega)) ?_
    refine ev_if_eq (pc := 42) (tgt := 46) dX2_reach_42 (by decide) (fun h42 => ?_) (fun h42 => ?_)
    · skip
      have hq : q.length < 1296 := by
        rcases Nat.lt_or_ge q.length 1296 with z | z
        · exact z
        · exact absurd (by rw [hl0]; exact nI_le z (by omega)) h32
      rw [hQ.2.2.2 x hx] at h42
      have h42 := bI0.mp h42
      refine ev_aload_n_0 (pc := 46) dX2_reach_46 ?_
      refine ev_getR (pc := 47) (r := 24) dX2_reach_47 fl_X2_27 (by decide) (by decide) (by decide) (by decide) ?_
      refine ev_iload_4 (pc := 50) dX2_reach_50 ?_
      refine ev_iconst (pc := 52) (v := 1) dX2_reach_52 (by decide) ?_
      refine ev_bastore' (pc := 53) (j := x) dX2_reach_53 (by decide) (by decide) (show vp_in _ 1296 from (vp_in_nI hx (by decide))) (nI_clamp (by omega)) (by decide) ?_
      refine ev_aload_n_0 (pc := 54) dX2_reach_54 ?_
      refine ev_getR (pc := 55) (r := 20) dX2_reach_55 fl_X2_15 (by decide) (by decide) (by decide) (by decide) ?_
      refine ev_aload_n_0 (pc := 58) dX2_reach_58 ?_
      refine ev_getI (pc := 59) dX2_reach_59 fl_X2_49 (by decide) (by decide) (by decide) ?_
      refine ev_iload_4 (pc := 62) dX2_reach_62 ?_
      rw [show (wr σ 24 x 1).1 18 5 = nI q.length from (by (repeat rw [wr_ne (by decide)]); exact hl0)]
      refine ev_iastore' (pc := 64) (j := q.length) dX2_reach_64 (by decide) (by decide) (show vp_in _ 1296 from (vp_in_nI hq (by decide))) (nI_clamp (by omega)) ?_
      refine ev_aload_n_0 (pc := 65) dX2_reach_65 ?_
      refine ev_getR (pc := 66) (r := 21) dX2_reach_66 fl_X2_18 (by decide) (by decide) (by decide) (by decide) ?_
      refine ev_aload_n_0 (pc := 69) dX2_reach_69 ?_
      refine ev_getI (pc := 70) dX2_reach_70 fl_X2_49 (by decide) (by decide) (by decide) ?_
      refine ev_iload_n_1 (pc := 73) dX2_reach_73 ?_
      rw [show (wr (wr σ 24 x 1) 20 q.length (nI x)).1 18 5 = nI q.length from (by (repeat rw [wr_ne (by decide)]); exact hl0)]
      refine ev_iastore' (pc := 74) (j := q.length) dX2_reach_74 (by decide) (by decide) (show vp_in _ 1296 from (vp_in_nI hq (by decide))) (nI_clamp (by omega)) ?_
      refine ev_aload_n_0 (pc := 75) dX2_reach_75 ?_
      refine ev_getR (pc := 76) (r := 22) dX2_reach_76 fl_X2_21 (by decide) (by decide) (by decide) (by decide) ?_
      refine ev_aload_n_0 (pc := 79) dX2_reach_79 ?_
      refine ev_getI (pc := 80) dX2_reach_80 fl_X2_49 (by decide) (by decide) (by decide) ?_
      refine ev_iload_n_2 (pc := 83) dX2_reach_83 ?_
      rw [show (wr (wr (wr σ 24 x 1) 20 q.length (nI x)) 21 q.length (nI len)).1 18 5 = nI q.length from (by (repeat rw [wr_ne (by decide)]); exact hl0)]
      refine ev_iastore' (pc := 84) (j := q.length) dX2_reach_84 (by decide) (by decide) (show vp_in _ 1296 from (vp_in_nI hq (by decide))) (nI_clamp (by omega)) ?_
      refine ev_aload_n_0 (pc := 85) dX2_reach_85 ?_
      refine ev_getR (pc := 86) (r := 23) dX2_reach_86 fl_X2_24 (by decide) (by decide) (by decide) (by decide) ?_
      refine ev_aload_n_0 (pc := 89) dX2_reach_89 ?_
      refine ev_getI (pc := 90) dX2_reach_90 fl_X2_49 (by decide) (by decide) (by decide) ?_
      refine ev_iload_n_3 (pc := 93) dX2_reach_93 ?_
      rw [show (wr (wr (wr (wr σ 24 x 1) 20 q.length (nI x)) 21 q.length (nI len)) 22 q.length (nI f)).1 18 5 = nI q.length from (by (repeat rw [wr_ne (by decide)]); exact hl0)]
      refine ev_iastore' (pc := 94) (j := q.length) dX2_reach_94 (by decide) (by decide) (show vp_in _ 1296 from (vp_in_nI hq (by decide))) (nI_clamp (by omega)) ?_
      refine ev_aload_n_0 (pc := 95) dX2_reach_95 ?_
      refine ev_dup (pc := 96) dX2_reach_96 rfl ?_
      refine ev_getI (pc := 97) dX2_reach_97 fl_X2_49 (by decide) (by decide) (by decide) ?_
      rw [show (wr (wr (wr (wr (wr σ 24 x 1) 20 q.length (nI x)) 21 q.length (nI len)) 22 q.length (nI f)) 23 q.length (dI D)).1 18 5 = nI q.length from (by (repeat rw [wr_ne (by decide)]); exact hl0)]
      refine ev_iconst (pc := 100) (v := 1) dX2_reach_100 (by decide) ?_
      refine ev_iadd (pc := 101) dX2_reach_101 ?_
      rw [nI_s1]
      refine ev_putI (pc := 102) dX2_reach_102 fl_X2_49 (by decide) (by decide) (by decide) ?_
      exact ev_return (pc := 105) dX2_reach_105 rfl (reach_leaf hx hl hf hQ hq h42)
    · skip
      exact ev_return (pc := 45) dX2_reach_45 rfl (⟨rfl, Sp.rfl' σ, fun _ _ _ => rfl, fun _ => rfl, by unfold psh; rw [if_pos (Or.inl (by rw [hQ.2.2.2 x hx] at h42; exact Decidable.not_not.mp (fun z => h42 (bI0.mpr z))))]; exact hQ⟩)
