/-! ===== the planner's methods ===== -/
abbrev goS (i : Nat) (e : PE) (d : Nat) (q : List PE) : List PE := psh q (stp e.1 d, e.2.1 + 1, i, d, 5 * e.2.2.2.2 + d)
theorem psh_old {q : List PE} {e x : PE} {i : Nat} (h : q[i]? = some e) : (psh q x)[i]? = some e := by
  unfold psh
  split
  · exact h
  · rw [List.getElem?_append_left (List.getElem?_eq_some_iff.mp h).1]; exact h
theorem goS_old {q : List PE} {e : PE} {i : Nat} (h : q[i]? = some e) : ∀ k, (itN (goS i e) k q)[i]? = some e := by
  intro k
  induction k with
  | zero => exact h
  | succ k ih => exact psh_old ih
theorem QR.mv {σ τ : Sto} {q : List PE} (h : QR σ q) (h1 : τ.1 18 5 = σ.1 18 5) (h2 : ∀ k, 20 ≤ k → k < 25 → τ.1 k = σ.1 k) : QR τ q := by
  obtain ⟨a, b, c, d⟩ := h
  refine ⟨h1.trans a, b, fun i e he => ?_, fun x hx => ?_⟩
  · rw [h2 20 (by decide) (by decide), h2 21 (by decide) (by decide), h2 22 (by decide) (by decide), h2 23 (by decide) (by decide)]; exact c i e he
  · rw [h2 24 (by decide) (by decide)]; exact d x hx
/-- all but the planner's queue and its trial pot is as it was -/
def Sg (σ τ : Sto) : Prop := Sp σ τ ∧ τ.1 45 = σ.1 45 ∧ τ.1 46 = σ.1 46 ∧ ∀ j, τ.1 19 j = σ.1 19 j
theorem chgdig_ne {τ : Sto} {x d k : Nat} (h : k ≠ 44) : (chgW (digW τ 44 x) 44 (nI d)).1 k = τ.1 k := by rw [chgW_ne h, digW_ne h]
theorem digW_at {τ : Sto} {a x p : Nat} (hp : p < 4) : (digW τ a x).1 a p = dg x p := by unfold digW; simp [hp]
set_option maxRecDepth 100000 in
theorem b_X2_goOn {S : Scr} (q : List PE) (i : Nat) (e : PE) (he : q[i]? = some e) (hL : e.2.1 < 5) (d : Nat) (hd : d < 5) (τ : Sto) (hQ : QR τ (itN (goS i e) d q)) {Q : Option Value → Sto → Prop} (K : ∀ τ2, Sg τ τ2 → QR τ2 (itN (goS i e) (d + 1) q) → Ev S RX2 cX2_goOnFrom 3 none 2 2 [.ref 18, .int (nI i), .int (nI (d + 1))] [] τ2 (Q)) : Ev S RX2 cX2_goOnFrom 3 none 2 2 [.ref 18, .int (nI i), .int (nI d)] [] τ (Q) := by
  have hE := hQ.2.2.1 i e (goS_old he d)
  have hx := hE.1
  have hi1 : i < 1296 := Nat.lt_of_lt_of_le (List.getElem?_eq_some_iff.mp (goS_old he d)).1 hQ.2.1
  have hdI : (.int (nI d) : Value) = .int (dI d) := by unfold dI; rw [if_neg (by omega)]
  refine ev_iload_n_2 (pc := 2) dX2_goOnFrom_2 ?_
  refine ev_iconst (pc := 3) (v := 5) dX2_goOnFrom_3 (by decide) ?_
  refine ev_icmp_ge (pc := 4) (tgt := 54) dX2_goOnFrom_4 (by decide) (fun h4 => by exact absurd h4 (nI_ge (a := d) (b := 5) hd (by decide))) (fun h4 => ?_)
  refine ev_aload_n_0 (pc := 7) dX2_goOnFrom_7 ?_
  refine ev_getR (pc := 8) (r := 20) dX2_goOnFrom_8 fl_X2_15 (by decide) (by decide) (by decide) (by decide) ?_
  refine ev_iload_n_1 (pc := 11) dX2_goOnFrom_11 ?_
  refine ev_iaload' (pc := 12) (j := i) dX2_goOnFrom_12 (by decide) (by decide) (show vp_in _ 1296 from (vp_in_nI hi1 (by decide))) (nI_clamp (by omega)) ?_
  refine ev_aload_n_0 (pc := 13) dX2_goOnFrom_13 ?_
  refine ev_getR (pc := 14) (r := 43) dX2_goOnFrom_14 fl_X2_34 (by decide) (by decide) (by decide) (by decide) ?_
  refine ev_getR (pc := 17) (r := 44) dX2_goOnFrom_17 fl_X2_53 (by decide) (by decide) (by decide) (by decide) ?_
  rw [hE.2.2.2.1]
  refine ev_callN0 (pc := 20) dX2_goOnFrom_20 mn_X2_56 (m_X7_rowOf IsA44 _ τ) rfl (by decide) rfl (Nat.le_of_ble_eq_true rfl) ?_
  rw [rowW_dig hx]
  refine ev_aload_n_0 (pc := 23) dX2_goOnFrom_23 ?_
  refine ev_getR (pc := 24) (r := 43) dX2_goOnFrom_24 fl_X2_34 (by decide) (by decide) (by decide) (by decide) ?_
  refine ev_getR (pc := 27) (r := 44) dX2_goOnFrom_27 fl_X2_53 (by decide) (by decide) (by decide) (by decide) ?_
  refine ev_iload_n_2 (pc := 30) dX2_goOnFrom_30 ?_
  refine ev_callN0 (pc := 31) dX2_goOnFrom_31 mn_X2_73 (m_X7_change IsA44 _ _) rfl (by decide) rfl (Nat.le_of_ble_eq_true rfl) ?_
  refine ev_aload_n_0 (pc := 34) dX2_goOnFrom_34 ?_
  refine ev_aload_n_0 (pc := 35) dX2_goOnFrom_35 ?_
  refine ev_getR (pc := 36) (r := 21) dX2_goOnFrom_36 fl_X2_18 (by decide) (by decide) (by decide) (by decide) ?_
  refine ev_iload_n_1 (pc := 39) dX2_goOnFrom_39 ?_
  refine ev_iaload' (pc := 40) (j := i) dX2_goOnFrom_40 (by decide) (by decide) (show vp_in _ 1296 from (vp_in_nI hi1 (by decide))) (nI_clamp (by omega)) ?_
  rw [chgdig_ne (show 21 ≠ 44 by decide), hE.2.2.2.2.1]
  refine ev_iconst (pc := 41) (v := 1) dX2_goOnFrom_41 (by decide) ?_
  refine ev_iadd (pc := 42) dX2_goOnFrom_42 ?_
  rw [nI_s1]
  refine ev_iload_n_1 (pc := 43) dX2_goOnFrom_43 ?_
  refine ev_iload_n_2 (pc := 44) dX2_goOnFrom_44 ?_
  refine ev_eq (st' := [.int (dI d), .int (nI i), .int (nI (e.2.1 + 1)), .ref 18]) rfl (by rw [← hdI]) rfl ?_
  refine ev_callV (pc := 45) dX2_goOnFrom_45 ml_X2_45 (m_X2_reach (itN (goS i e) d q) (stp e.1 d) (e.2.1 + 1) i d (5 * e.2.2.2.2 + d) (stp_lt hx hd) (by omega) hi1 _ (hQ.mv (by rw [chgdig_ne (by decide)]) (fun k h1 h2 => chgdig_ne (by omega))) (fun p hp => by rw [chg_at hd hp (fun p hp => digW_at hp)]; exact stp_dg hx hd hp)) (by decide) ⟨_, rfl, rfl⟩ rfl (by decide) rfl (Nat.le_of_ble_eq_true rfl) ?_
  rintro rv τ3 ⟨rfl, g1, g2, g3, g4⟩
  refine ev_iinc_2 (pc := 48) (v := nI (d + 1)) dX2_goOnFrom_48 (nI_inc d) (by decide) ?_
  refine ev_goto (pc := 51) (tgt := 2) dX2_goOnFrom_51 (by decide) ?_
  refine K τ3 ⟨⟨?_, fun k j a1 a2 a3 => ?_⟩, ?_, ?_, fun j => ?_⟩ g4
  · rw [g1.1, chgW_2]; rfl
  · rw [g1.2 k j a1 a2 a3, chgdig_ne (by omega)]
  · rw [g2 45 (by decide) (by decide), chgdig_ne (by decide)]
  · rw [g2 46 (by decide) (by decide), chgdig_ne (by decide)]
  · rw [g3, chgdig_ne (by decide)]
theorem Sg.tr {a b c : Sto} (h : Sg a b) (g : Sg b c) : Sg a c := ⟨h.1.tr g.1, g.2.1.trans h.2.1, g.2.2.1.trans h.2.2.1, fun j => (g.2.2.2 j).trans (h.2.2.2 j)⟩
theorem Sg.rfl' (σ : Sto) : Sg σ σ := ⟨Sp.rfl' σ, rfl, rfl, fun _ => rfl⟩
theorem m_X2_goOn {S : Scr} (q : List PE) (i : Nat) (e : PE) (he : q[i]? = some e) (hL : e.2.1 < 5) (σ : Sto) (hQ : QR σ q) : Mt S yX2_goOnFrom cX2_goOnFrom 3 none 2 [.ref 18, .int (nI i)] σ (fun r τ => r = none ∧ Sg σ τ ∧ QR τ (itN (goS i e) 5 q)) := by
  refine mt_of (ls := [.ref 18, .int (nI i), .null]) (by decide) rfl (Nat.le_of_ble_eq_true rfl) (by simp [Value.category]) ?_
  refine ev_iconst (pc := 0) (v := 0) dX2_goOnFrom_0 (by decide) ?_
  refine ev_istore_n_2 (pc := 1) dX2_goOnFrom_1 (by decide) ?_
  have hd : ∀ k d, d + k = 5 → ∀ τ, Sg σ τ → QR τ (itN (goS i e) d q) → Ev S RX2 cX2_goOnFrom 3 none 2 2 [.ref 18, .int (nI i), .int (nI d)] [] τ (fun r τ => r = none ∧ Sg σ τ ∧ QR τ (itN (goS i e) 5 q)) := by
    intro k
    induction k with
    | zero =>
      intro d hd τ hS hq
      obtain rfl : d = 5 := by omega
      refine ev_iload_n_2 (pc := 2) dX2_goOnFrom_2 ?_
      refine ev_iconst (pc := 3) (v := 5) dX2_goOnFrom_3 (by decide) ?_
      refine ev_icmp_ge (pc := 4) (tgt := 54) dX2_goOnFrom_4 (by decide) (fun h4 => ?_) (fun h4 => by exact absurd (by decide) h4)
      exact ev_return (pc := 54) dX2_goOnFrom_54 rfl (⟨rfl, hS, hq⟩)
    | succ k ih =>
      intro d hd τ hS hq
      exact b_X2_goOn q i e he hL d (by omega) τ hq (fun τ2 h1 h2 => ih (d + 1) (by omega) τ2 (hS.tr h1) h2)
  exact hd 5 0 rfl σ (Sg.rfl' σ) hQ
abbrev QW (q : List PE) : Prop := (∀ e, q[0]? = some e → e.2.1 = 0) ∧ ∀ (j : Nat) (e : PE), q[j]? = some e → 0 < j → e.2.2.2.1 < 5 ∧ ∃ e' : PE, q[e.2.2.1]? = some e' ∧ e.2.1 = e'.2.1 + 1 ∧ e.2.2.2.2 = 5 * e'.2.2.2.2 + e.2.2.2.1
def trI (σ : Sto) (L N t : Nat) (τ : Sto) : Prop := τ.2 = σ.2 ∧ (∀ k, k ≠ 19 → τ.1 k = σ.1 k) ∧ ∀ k, t ≤ k → k < L → τ.1 19 k = nI (N / 5 ^ (L - 1 - k) % 5)
theorem mn5 : ∀ n, n ≤ 5 → mnI (nI n) 5 = nI n := by decide +kernel
theorem nI_m1 (t : Nat) : nI (t + 1) - 1 = nI t := nI_pred t
theorem nI_dec (t : Nat) : nI t + Int32.ofInt (-1) = nI t - 1 := by rw [Int32.sub_eq_add_neg]; rfl
set_option maxRecDepth 100000 in
theorem b_X2_tellRow {S : Scr} (q : List PE) (i L N t : Nat) (htL : t + 1 ≤ L) (hL5 : L ≤ 5) (j : Nat) (e : PE) (he : q[j]? = some e) (hW : QW q) (hl : e.2.1 = t + 1) (hN : e.2.2.2.2 = N / 5 ^ (L - (t + 1))) (σ τ : Sto) (hQ : QR σ q) (hI : trI σ L N (t + 1) τ) {Q : Option Value → Sto → Prop} (K : ∀ τ2, trI σ L N t τ2 → ∀ e2, q[e.2.2.1]? = some e2 → e2.2.1 = t → e2.2.2.2.2 = N / 5 ^ (L - t) → Ev S RX2 cX2_tellRow 4 none 1 15 [.ref 18, .int (nI i), .int (nI e.2.2.1), .int (nI t - 1)] [] τ2 (Q)) : Ev S RX2 cX2_tellRow 4 none 1 15 [.ref 18, .int (nI i), .int (nI j), .int (nI (t + 1) - 1)] [] τ (Q) := by
  have hE := hQ.2.2.1 j e he
  have hj1 : j < 1296 := Nat.lt_of_lt_of_le (List.getElem?_eq_some_iff.mp he).1 hQ.2.1
  have hj0 : 0 < j := by
    rcases Nat.eq_zero_or_pos j with z | z
    · subst z
      have := hW.1 e he
      omega
    · exact z
  obtain ⟨w1, e2, w2, w3, w4⟩ := hW.2 j e he hj0
  refine ev_iload_n_3 (pc := 15) dX2_tellRow_15 ?_
  refine ev_if_lt (pc := 16) (tgt := 44) dX2_tellRow_16 (by decide) (fun h16 => by exact absurd h16 (by rw [nI_m1]; exact nI_pos (by omega))) (fun h16 => ?_)
  rw [nI_m1]
  refine ev_aload_n_0 (pc := 19) dX2_tellRow_19 ?_
  refine ev_getR (pc := 20) (r := 19) dX2_tellRow_20 fl_X2_9 (by decide) (by decide) (by decide) (by decide) ?_
  refine ev_iload_n_3 (pc := 23) dX2_tellRow_23 ?_
  refine ev_aload_n_0 (pc := 24) dX2_tellRow_24 ?_
  refine ev_getR (pc := 25) (r := 23) dX2_tellRow_25 fl_X2_24 (by decide) (by decide) (by decide) (by decide) ?_
  refine ev_iload_n_2 (pc := 28) dX2_tellRow_28 ?_
  refine ev_iaload' (pc := 29) (j := j) dX2_tellRow_29 (by decide) (by decide) (show vp_in _ 1296 from (vp_in_nI hj1 (by decide))) (nI_clamp (by omega)) ?_
  rw [hI.2.1 23 (by decide), hE.2.2.2.2.2.2, show dI e.2.2.2.1 = nI e.2.2.2.1 from (by unfold dI; rw [if_neg (by omega)])]
  refine ev_iastore' (pc := 30) (j := t) dX2_tellRow_30 (by decide) (by decide) (show vp_in _ 5 from (vp_in_nI (by omega) (by decide))) (nI_clamp (by omega)) ?_
  refine ev_aload_n_0 (pc := 31) dX2_tellRow_31 ?_
  refine ev_getR (pc := 32) (r := 22) dX2_tellRow_32 fl_X2_21 (by decide) (by decide) (by decide) (by decide) ?_
  refine ev_iload_n_2 (pc := 35) dX2_tellRow_35 ?_
  refine ev_iaload' (pc := 36) (j := j) dX2_tellRow_36 (by decide) (by decide) (show vp_in _ 1296 from (vp_in_nI hj1 (by decide))) (nI_clamp (by omega)) ?_
  rw [wr_ne (show 22 ≠ 19 by decide), hI.2.1 22 (by decide), hE.2.2.2.2.2.1]
  refine ev_istore_n_2 (pc := 37) dX2_tellRow_37 (by decide) ?_
  refine ev_iinc_3 (pc := 38) (v := nI t - 1) dX2_tellRow_38 (nI_dec t) (by decide) ?_
  refine ev_goto (pc := 41) (tgt := 15) dX2_tellRow_41 (by decide) ?_
  refine K _ ⟨hI.1, fun k hk => ?_, fun k h1 h2 => ?_⟩ e2 w2 (by omega) ?_
  · rw [wr_ne hk]; exact hI.2.1 k hk
  · by_cases ek : k = t
    · rw [ek, wr_at]
      have : L - 1 - t = L - (t + 1) := by omega
      rw [this, ← hN, w4]
      congr 1
      omega
    · rw [wr_nj ek]; exact hI.2.2 k (by omega) h2
  · have e5 : L - t = (L - (t + 1)) + 1 := by omega
    rw [e5, Nat.pow_succ, ← Nat.div_div_eq_div_mul, ← hN, w4]
    omega
theorem m_X2_tellRow {S : Scr} (q : List PE) (i : Nat) (e : PE) (he : q[i]? = some e) (hW : QW q) (σ : Sto) (hQ : QR σ q) : Mt S yX2_tellRow cX2_tellRow 4 none 1 [.ref 18, .int (nI i)] σ (fun r τ => r = none ∧ trI σ e.2.1 e.2.2.2.2 0 τ) := by
  refine mt_of (ls := [.ref 18, .int (nI i), .null, .null]) (by decide) rfl (Nat.le_of_ble_eq_true rfl) (by simp [Value.category]) ?_
  have hE := hQ.2.2.1 i e he
  have hi1 : i < 1296 := Nat.lt_of_lt_of_le (List.getElem?_eq_some_iff.mp he).1 hQ.2.1
  refine ev_iload_n_1 (pc := 0) dX2_tellRow_0 ?_
  refine ev_istore_n_2 (pc := 1) dX2_tellRow_1 (by decide) ?_
  refine ev_aload_n_0 (pc := 2) dX2_tellRow_2 ?_
  refine ev_getR (pc := 3) (r := 21) dX2_tellRow_3 fl_X2_18 (by decide) (by decide) (by decide) (by decide) ?_
  refine ev_iload_n_1 (pc := 6) dX2_tellRow_6 ?_
  refine ev_iaload' (pc := 7) (j := i) dX2_tellRow_7 (by decide) (by decide) (show vp_in _ 1296 from (vp_in_nI hi1 (by decide))) (nI_clamp (by omega)) ?_
  rw [hE.2.2.2.2.1]
  refine ev_iconst (pc := 8) (v := 5) dX2_tellRow_8 (by decide) ?_
  refine ev_mmin' (pc := 9) dX2_tellRow_9 ml_X2_81 (by decide) (Nat.le_of_ble_eq_true rfl) ?_
  rw [mn5 _ hE.2.1]
  refine ev_iconst (pc := 12) (v := 1) dX2_tellRow_12 (by decide) ?_
  refine ev_isub (pc := 13) dX2_tellRow_13 ?_
  refine ev_istore_n_3 (pc := 14) dX2_tellRow_14 (by decide) ?_
  have hd : ∀ t, t ≤ e.2.1 → ∀ j e1 τ, q[j]? = some e1 → e1.2.1 = t → e1.2.2.2.2 = e.2.2.2.2 / 5 ^ (e.2.1 - t) → trI σ e.2.1 e.2.2.2.2 t τ → Ev S RX2 cX2_tellRow 4 none 1 15 [.ref 18, .int (nI i), .int (nI j), .int (nI t - 1)] [] τ (fun r τ => r = none ∧ trI σ e.2.1 e.2.2.2.2 0 τ) := by
    intro t
    induction t with
    | zero =>
      intro _ j e1 τ h1 h2 h3 hI
      refine ev_iload_n_3 (pc := 15) dX2_tellRow_15 ?_
      refine ev_if_lt (pc := 16) (tgt := 44) dX2_tellRow_16 (by decide) (fun h16 => ?_) (fun h16 => by exact absurd (by decide) h16)
      exact ev_return (pc := 44) dX2_tellRow_44 rfl (⟨rfl, hI⟩)
    | succ t ih =>
      intro ht j e1 τ h1 h2 h3 hI
      exact b_X2_tellRow q i e.2.1 e.2.2.2.2 t ht hE.2.1 j e1 h1 hW h2 h3 σ τ hQ hI (fun τ2 g1 e2 g2 g3 g4 => ih (by omega) _ e2 τ2 g2 g3 g4 g1)
  exact hd e.2.1 (Nat.le_refl _) i e σ he rfl (by rw [Nat.sub_self, Nat.pow_zero, Nat.div_one]) ⟨rfl, fun _ _ => rfl, fun k h1 h2 => by omega⟩
