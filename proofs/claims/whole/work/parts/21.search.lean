abbrev plC (σ : Sto) (n : Nat) (s : Int32) (x : Nat) : Prop := ∀ b, b < n → bit s b → mienD (σ.1 (25 + 2 * b + 1)) (σ.1 (25 + 2 * b) 1) (dg x) (σ.1 41 b) = 0
def seI (σ : Sto) (n : Nat) (s : Int32) (x0 i : Nat) (q : List PE) (τ : Sto) : Prop := Sp σ τ ∧ (∀ b, b < 6 → τ.1 45 b = σ.1 41 b) ∧ QR τ q ∧ BK (plC σ n s) x0 i 0 q
def seP (σ : Sto) (n : Nat) (s : Int32) (x0 : Nat) (r : Option Value) (τ : Sto) : Prop := Sp σ τ ∧ PI τ ∧ ((∃ l N, Frst (plC σ n s) x0 l N ∧ r = some (.int (nI l)) ∧ ∀ k, k < l → τ.1 19 k = nI (N / 5 ^ (l - 1 - k) % 5)) ∨ ((∀ l N, l ≤ 5 → N < 5 ^ l → ¬ plC σ n s (runW x0 l N)) ∧ r = some (.int (-9))))
theorem plC_iff {σ τ : Sto} {n x : Nat} {s : Int32} (hn : n ≤ 6) (h : Sp σ τ) (h45 : ∀ b, b < 6 → τ.1 45 b = σ.1 41 b) : allCalm (digW τ 44 x) 43 n s ↔ plC σ n s x := by
  have key : ∀ b, b < n → mienB (digW τ 44 x) 43 b = mienD (σ.1 (25 + 2 * b + 1)) (σ.1 (25 + 2 * b) 1) (dg x) (σ.1 41 b) := by
    intro b hb
    show mienD ((digW τ 44 x).1 (25 + 2 * b + 1)) ((digW τ 44 x).1 (25 + 2 * b) 1) ((digW τ 44 x).1 44) ((digW τ 44 x).1 45 b) = _
    rw [digW_ne (show 25 + 2 * b + 1 ≠ 44 by omega), digW_ne (show 25 + 2 * b ≠ 44 by omega), digW_ne (show 45 ≠ 44 by decide), h.fn (by omega) (by omega), h.fn (by omega) (by omega), h45 b (by omega)]
    exact mienD_congr (fun _ _ => rfl) (fun p hp => digW_at hp)
  constructor
  · intro g b hb hs; rw [← key b hb]; exact g b hb hs
  · intro g b hb hs; rw [key b hb]; exact g b hb hs
theorem bk_qw {c : Nat → Prop} {x0 i d : Nat} {q : List PE} (h : BK c x0 i d q) : QW q := by
  refine ⟨fun e he => ?_, fun j e he hj => ?_⟩
  · rw [h.1] at he; cases he; rfl
  · obtain ⟨-, -, h3, h4⟩ := h.2.2.2.2.1 j e he hj
    exact ⟨h3, h4⟩
theorem bk_go {c : Nat → Prop} {x0 i : Nat} {q : List PE} (h : BK c x0 i 0 q) {e : PE} (he : q[i]? = some e) (hL : e.2.1 < 5) : ∀ d, d ≤ 5 → BK c x0 i d (itN (goS i e) d q) := by
  intro d
  induction d with
  | zero => intro _; exact h
  | succ d ih => intro hd; exact bk_push (ih (by omega)) (goS_old he d) hL (by omega)
theorem sp_dig {σ τ : Sto} {x : Nat} (h : Sp σ τ) : Sp σ (digW τ 44 x) := ⟨h.1, fun k j h1 h2 h3 => by rw [digW_ne (by omega)]; exact h.2 k j h1 h2 h3⟩
theorem qr_dig {τ : Sto} {x : Nat} {q : List PE} (h : QR τ q) : QR (digW τ 44 x) q := h.mv (by rw [digW_ne (by decide)]) (fun k h1 h2 => digW_ne (by omega))
theorem bec43 {τ : Sto} {k : Nat} (h : k < 44 ∨ 47 ≤ k) : (becW τ 43 39).1 k = τ.1 k := by unfold becW; rw [cp0_ne (by omega), cp0_ne (by omega), cp0_ne (by omega)]
theorem bec44 {τ : Sto} {p : Nat} (hp : p < 4) : (becW τ 43 39).1 44 p = τ.1 40 p := by unfold becW cp0; simp [hp]
theorem bec45 {τ : Sto} {b : Nat} (hb : b < 6) : (becW τ 43 39).1 45 b = τ.1 41 b := by unfold becW cp0; simp [hb]
set_option maxRecDepth 100000 in
theorem b_X2_search {S : Scr} (n : Nat) (hn : n ≤ 6) (s : Int32) (x0 : Nat) (i : Nat) (q : List PE) (e : PE) (he : q[i]? = some e) (σ τ : Sto) (hm : σ.1 5 1 = nI n) (hI : seI σ n s x0 i q τ) (K : ∀ τ2 q2, seI σ n s x0 (i + 1) q2 τ2 → Ev S RX2 cX2_search 5 (some .int) 4 23 [.ref 18, .ref 5, .ref 39, .int s, .int (nI (i + 1))] [] τ2 (seP σ n s x0)) : Ev S RX2 cX2_search 5 (some .int) 4 23 [.ref 18, .ref 5, .ref 39, .int s, .int (nI i)] [] τ (seP σ n s x0) := by
  have hE := hI.2.2.1.2.2.1 i e he
  have hil := (List.getElem?_eq_some_iff.mp he).1
  have hi1 : i < 1296 := Nat.lt_of_lt_of_le hil hI.2.2.1.2.1
  refine ev_iload_4 (pc := 23) dX2_search_23 ?_
  refine ev_aload_n_0 (pc := 25) dX2_search_25 ?_
  refine ev_getI (pc := 26) dX2_search_26 fl_X2_49 (by decide) (by decide) (by decide) ?_
  refine ev_icmp_ge (pc := 29) (tgt := 106) dX2_search_29 (by decide) (fun h29 => by exact absurd h29 (by rw [hI.2.2.1.1]; exact nI_ge hil (by have := hI.2.2.1.2.1; omega))) (fun h29 => ?_)
  refine ev_iload_4 (pc := 32) dX2_search_32 ?_
  refine ev_sipush (pc := 34) (v := 1296) dX2_search_34 (by decide) ?_
  refine ev_icmp_ge (pc := 37) (tgt := 106) dX2_search_37 (by decide) (fun h37 => by exact absurd h37 (nI_ge (a := i) (b := 1296) hi1 (by decide))) (fun h37 => ?_)
  refine ev_aload_n_0 (pc := 40) dX2_search_40 ?_
  refine ev_getR (pc := 41) (r := 20) dX2_search_41 fl_X2_15 (by decide) (by decide) (by decide) (by decide) ?_
  refine ev_iload_4 (pc := 44) dX2_search_44 ?_
  refine ev_iaload' (pc := 46) (j := i) dX2_search_46 (by decide) (by decide) (show vp_in _ 1296 from (vp_in_nI hi1 (by decide))) (nI_clamp (by omega)) ?_
  refine ev_aload_n_0 (pc := 47) dX2_search_47 ?_
  refine ev_getR (pc := 48) (r := 43) dX2_search_48 fl_X2_34 (by decide) (by decide) (by decide) (by decide) ?_
  refine ev_getR (pc := 51) (r := 44) dX2_search_51 fl_X2_53 (by decide) (by decide) (by decide) (by decide) ?_
  rw [hE.2.2.2.1]
  refine ev_callN0 (pc := 54) dX2_search_54 mn_X2_56 (m_X7_rowOf IsA44 _ τ) rfl (by decide) rfl (Nat.le_of_ble_eq_true rfl) ?_
  rw [rowW_dig hE.1]
  refine ev_aload_n_1 (pc := 57) dX2_search_57 ?_
  refine ev_iload_n_3 (pc := 58) dX2_search_58 ?_
  refine ev_aload_n_0 (pc := 59) dX2_search_59 ?_
  refine ev_getR (pc := 60) (r := 43) dX2_search_60 fl_X2_34 (by decide) (by decide) (by decide) (by decide) ?_
  refine ev_callV1 (pc := 63) dX2_search_63 ml_X2_60 (m_X0_areCalm isSc_43 n hn s _ (by rw [digW_ne (by decide), hI.1.fn (by decide) (by decide)]; exact hm)) (by decide) ⟨_, rfl, rfl⟩ rfl (by decide) rfl (Nat.le_of_ble_eq_true rfl) ?_
  refine ev_if_eq (pc := 66) (tgt := 83) dX2_search_66 (by decide) (fun h66 => ?_) (fun h66 => ?_)
  · skip
    refine ev_aload_n_0 (pc := 83) dX2_search_83 ?_
    refine ev_getR (pc := 84) (r := 21) dX2_search_84 fl_X2_18 (by decide) (by decide) (by decide) (by decide) ?_
    refine ev_iload_4 (pc := 87) dX2_search_87 ?_
    refine ev_iaload' (pc := 89) (j := i) dX2_search_89 (by decide) (by decide) (show vp_in _ 1296 from (vp_in_nI hi1 (by decide))) (nI_clamp (by omega)) ?_
    refine ev_iconst (pc := 90) (v := 5) dX2_search_90 (by decide) ?_
    refine ev_icmp_ge (pc := 91) (tgt := 100) dX2_search_91 (by decide) (fun h91 => ?_) (fun h91 => ?_)
    · skip
      refine ev_iinc_4 (pc := 100) (v := nI (i + 1)) dX2_search_100 (nI_inc i) (by decide) ?_
      refine ev_goto (pc := 103) (tgt := 23) dX2_search_103 (by decide) ?_
      have hnc : ¬ plC σ n s e.1 := by rw [bI_iff (plC_iff (x := e.1) hn hI.1 hI.2.1)] at h66; exact bI0.mp h66
      have h5 : ¬ e.2.1 < 5 := fun z => by
        rw [digW_ne (show 21 ≠ 44 by decide), hE.2.2.2.2.1] at h91
        exact absurd h91 (nI_ge (a := e.2.1) (b := 5) z (by decide))
      exact K (digW τ 44 e.1) q ⟨sp_dig hI.1, fun b hb => by rw [digW_ne (by decide)]; exact hI.2.1 b hb, qr_dig hI.2.2.1, bk_next hI.2.2.2 he hnc (Or.inr ⟨rfl, h5⟩)⟩
    · skip
      have h5 : e.2.1 < 5 := by
        rcases Nat.lt_or_ge e.2.1 5 with z | z
        · exact z
        · exact absurd (by rw [digW_ne (show 21 ≠ 44 by decide), hE.2.2.2.2.1]; exact nI_le z (by omega)) h91
      refine ev_aload_n_0 (pc := 94) dX2_search_94 ?_
      refine ev_iload_4 (pc := 95) dX2_search_95 ?_
      refine ev_callV (pc := 97) dX2_search_97 ml_X2_70 (m_X2_goOn q i e he h5 _ (qr_dig hI.2.2.1)) (by decide) ⟨_, rfl, rfl⟩ rfl (by decide) rfl (Nat.le_of_ble_eq_true rfl) ?_
      rintro rv τ3 ⟨rfl, g1, g2⟩
      refine ev_iinc_4 (pc := 100) (v := nI (i + 1)) dX2_search_100 (nI_inc i) (by decide) ?_
      refine ev_goto (pc := 103) (tgt := 23) dX2_search_103 (by decide) ?_
      have hnc : ¬ plC σ n s e.1 := by rw [bI_iff (plC_iff (x := e.1) hn hI.1 hI.2.1)] at h66; exact bI0.mp h66
      exact K τ3 _ ⟨⟨g1.1.1.trans (sp_dig hI.1).1, fun k j a1 a2 a3 => (g1.1.2 k j a1 a2 a3).trans ((sp_dig hI.1).2 k j a1 a2 a3)⟩, fun b hb => by rw [g1.2.1, digW_ne (by decide)]; exact hI.2.1 b hb, g2, bk_next (bk_go hI.2.2.2 he h5 5 (Nat.le_refl 5)) (goS_old he 5) hnc (Or.inl rfl)⟩
  · skip
    have hcc : plC σ n s e.1 := by rw [bI_iff (plC_iff (x := e.1) hn hI.1 hI.2.1)] at h66; exact Decidable.not_not.mp (fun z => h66 (bI0.mpr z))
    refine ev_aload_n_0 (pc := 69) dX2_search_69 ?_
    refine ev_iload_4 (pc := 70) dX2_search_70 ?_
    refine ev_callV (pc := 72) dX2_search_72 ml_X2_66 (m_X2_tellRow q i e he (bk_qw hI.2.2.2) _ (qr_dig hI.2.2.1)) (by decide) ⟨_, rfl, rfl⟩ rfl (by decide) rfl (Nat.le_of_ble_eq_true rfl) ?_
    rintro rv τ3 ⟨rfl, g1⟩
    refine ev_aload_n_0 (pc := 75) dX2_search_75 ?_
    refine ev_getR (pc := 76) (r := 21) dX2_search_76 fl_X2_18 (by decide) (by decide) (by decide) (by decide) ?_
    refine ev_iload_4 (pc := 79) dX2_search_79 ?_
    refine ev_iaload' (pc := 81) (j := i) dX2_search_81 (by decide) (by decide) (show vp_in _ 1296 from (vp_in_nI hi1 (by decide))) (nI_clamp (by omega)) ?_
    rw [g1.2.1 21 (by decide), digW_ne (show 21 ≠ 44 by decide), hE.2.2.2.2.1]
    exact ev_ireturn (pc := 82) dX2_search_82 rfl rfl (⟨⟨g1.1.trans hI.1.1, fun k j a1 a2 a3 => by rw [g1.2.1 k (by omega)]; exact (sp_dig hI.1).2 k j a1 a2 a3⟩, ((qr_dig hI.2.2.1).mv (by rw [g1.2.1 18 (by decide)]) (fun k h1 h2 => g1.2.1 k (by omega))).pi, Or.inl ⟨e.2.1, e.2.2.2.2, bk_found hI.2.2.2 he hcc, rfl, fun k hk => g1.2.2 k (Nat.zero_le k) hk⟩⟩)
theorem m_X2_search {S : Scr} (n : Nat) (hn : n ≤ 6) (s : Int32) (x0 : Nat) (hx0 : x0 < 1296) (σ : Sto) (hm : σ.1 5 1 = nI n) (hP : PI σ) (hpot : ∀ p, p < 4 → σ.1 40 p = dg x0 p) : Mt S yX2_search cX2_search 5 (some .int) 4 [.ref 18, .ref 5, .ref 39, .int s] σ (seP σ n s x0) := by
  refine mt_of (ls := [.ref 18, .ref 5, .ref 39, .int s, .null]) (by decide) rfl (Nat.le_of_ble_eq_true rfl) (by simp [Value.category]) ?_
  refine ev_aload_n_0 (pc := 0) dX2_search_0 ?_
  refine ev_callV (pc := 1) dX2_search_1 ml_X2_38 (m_X2_forget σ hP) (by decide) ⟨_, rfl, rfl⟩ rfl (by decide) rfl (Nat.le_of_ble_eq_true rfl) ?_
  rintro rv τ1 ⟨rfl, f1, f2⟩
  refine ev_aload_n_0 (pc := 4) dX2_search_4 ?_
  refine ev_getR (pc := 5) (r := 43) dX2_search_5 fl_X2_34 (by decide) (by decide) (by decide) (by decide) ?_
  refine ev_aload_n_2 (pc := 8) dX2_search_8 ?_
  refine ev_callV0 (pc := 9) dX2_search_9 ml_X2_41 (m_X3_become isSc_43 isSc_39 τ1) (by decide) ⟨_, rfl, rfl⟩ rfl (by decide) rfl (Nat.le_of_ble_eq_true rfl) ?_
  refine ev_aload_n_0 (pc := 12) dX2_search_12 ?_
  refine ev_iconst (pc := 13) (v := 0) dX2_search_13 (by decide) ?_
  refine ev_iconst (pc := 14) (v := 0) dX2_search_14 (by decide) ?_
  refine ev_bipush (pc := 15) (v := (-9)) dX2_search_15 (by decide) ?_
  refine ev_callV (pc := 17) dX2_search_17 ml_X2_45 (m_X2_reach [] x0 0 0 9 0 hx0 (by decide) (by decide) _ (f2.mv (by rw [bec43 (by decide)]) (fun k h1 h2 => bec43 (by omega))) (fun p hp => by rw [bec44 hp, f1.fn (by decide) (by decide)]; exact hpot p hp)) (by decide) ⟨_, rfl, rfl⟩ rfl (by decide) rfl (Nat.le_of_ble_eq_true rfl) ?_
  rintro rv τ3 ⟨rfl, g1, g2, g3, g4⟩
  refine ev_iconst (pc := 20) (v := 0) dX2_search_20 (by decide) ?_
  refine ev_istore_4 (pc := 21) dX2_search_21 (by decide) ?_
  have hq0 : psh [] (x0, 0, 0, 9, 0) = [(x0, 0, 0, 9, 0)] := by unfold psh; rw [if_neg (fun z => by rcases z with ⟨a, b, -⟩ | z; cases b; simp at z)]; rfl
  rw [hq0] at g4
  have h0 : seI σ n s x0 0 [(x0, 0, 0, 9, 0)] τ3 := by
    refine ⟨⟨?_, fun k j a1 a2 a3 => ?_⟩, fun b hb => ?_, g4, bk_init hx0⟩
    · rw [g1.1]; exact f1.1
    · rw [g1.2 k j a1 a2 a3, bec43 (by omega)]; exact f1.2 k j a1 a2 a3
    · rw [g2 45 (by decide) (by decide), bec45 hb, f1.fn (by decide) (by decide)]
  have hd : ∀ k i q τ, i + k = 1297 → seI σ n s x0 i q τ → Ev S RX2 cX2_search 5 (some .int) 4 23 [.ref 18, .ref 5, .ref 39, .int s, .int (nI i)] [] τ (seP σ n s x0) := by
    intro k
    induction k with
    | zero =>
      intro i q τ hi hI
      have := hI.2.2.2.2.1
      have := hI.2.2.2.2.2.1
      omega
    | succ k ih =>
      intro i q τ hi hI
      rcases Nat.lt_or_ge i q.length with z | z
      · exact b_X2_search n hn s x0 i q q[i] (List.getElem?_eq_getElem z) σ τ hm hI (fun τ2 q2 h2 => ih (i + 1) q2 τ2 (by omega) h2)
      · obtain rfl : i = q.length := by have := hI.2.2.2.2.1; omega
        refine ev_iload_4 (pc := 23) dX2_search_23 ?_
        refine ev_aload_n_0 (pc := 25) dX2_search_25 ?_
        refine ev_getI (pc := 26) dX2_search_26 fl_X2_49 (by decide) (by decide) (by decide) ?_
        refine ev_icmp_ge (pc := 29) (tgt := 106) dX2_search_29 (by decide) (fun h29 => ?_) (fun h29 => by exact absurd (by rw [hI.2.2.1.1]; exact nI_le (Nat.le_refl _) (by have := hI.2.2.1.2.1; omega)) h29)
        refine ev_bipush (pc := 106) (v := (-9)) dX2_search_106 (by decide) ?_
        exact ev_ireturn (pc := 108) dX2_search_108 rfl rfl (⟨hI.1, hI.2.2.1.pi, Or.inr ⟨bk_end hI.2.2.2, rfl⟩⟩)
  exact hd 1297 0 _ τ3 rfl h0
