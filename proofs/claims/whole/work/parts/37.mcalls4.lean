/-! ===== the reference: calls, 4 ===== -/
theorem in08 {m : Int32} (h : ¬ m < 0 ∧ m < 9) : bI ((0 : Int32) ≤ m ∧ m ≤ 8) = 1 := bI_t ⟨Int32.not_lt.mp h.1, by
  have := h.2
  rw [tI_lt, show (9 : Int32).toInt = 9 from rfl] at this
  rw [tI_le, show (8 : Int32).toInt = 8 from rfl]; omega⟩
theorem le8_lt9 {m : Int32} (h : m ≤ 8) : m < 9 := by
  rw [tI_le, show (8 : Int32).toInt = 8 from rfl] at h
  rw [tI_lt, show (9 : Int32).toInt = 9 from rfl]; omega
abbrev seeW (σ : Sto) (l : Nat) (m : Int32) : Sto := wr (wr (cpk σ 120 0 124 (4 * l) 4) 125 l m) 117 8 (nI (l + 1))
theorem RW.see {A : Abs} {σ : Sto} (h : RW A σ) (m : Int32) : RW (setS A (aS A ++ [((aC A).1, m)])) (seeW σ (aS A).length m) := by
  obtain ⟨b, c, p, i, q, t, r⟩ := h
  have e : ∀ k, k ≠ 117 → k ≠ 124 → k ≠ 125 → (seeW σ (aS A).length m).1 k = σ.1 k := fun k h1 h2 h3 => by rw [wr_ne h1, wr_ne h3, cpk_ne h2]
  have e' : ∀ j, j ≠ 8 → (seeW σ (aS A).length m).1 117 j = σ.1 117 j := fun j hj => by rw [wr_nj hj, wr_ne (by decide), cpk_ne (by decide)]
  refine ⟨b.mv (e' 0 (by decide)) (e 118 (by decide) (by decide) (by decide)) (e 119 (by decide) (by decide) (by decide)), c.mv (e 120 (by decide) (by decide) (by decide)), p.mv (e' 5 (by decide)) (e 121 (by decide) (by decide) (by decide)), i.mv (e 123 (by decide) (by decide) (by decide)) (e 122 (by decide) (by decide) (by decide)), ⟨?_, fun k z hz => ?_⟩, t.mv (e' 13 (by decide)) (e 126 (by decide) (by decide) (by decide)), r⟩
  · rw [wr_at]
    show _ = nI (aS A ++ [((aC A).1, m)]).length
    rw [List.length_append]; rfl
  · have hz' : (aS A ++ [((aC A).1, m)])[k]? = some z := hz
    rcases Nat.lt_trichotomy k (aS A).length with g | g | g
    · rw [List.getElem?_append_left g] at hz'
      refine ⟨fun p hp => ?_, ?_⟩
      · rw [wr_ne (by decide), wr_ne (by decide), cpk_out (by omega)]; exact (q.2 k z hz').1 p hp
      · rw [wr_ne (by decide), wr_nj (by omega), cpk_ne (by decide)]; exact (q.2 k z hz').2
    · rw [List.getElem?_append_right (by omega), g, Nat.sub_self] at hz'
      cases hz'
      refine ⟨fun p hp => ?_, ?_⟩
      · rw [wr_ne (by decide), wr_ne (by decide), g, cpk_in (by omega)]; exact c.1 p hp
      · rw [wr_ne (by decide), g, wr_at]
    · rw [List.getElem?_eq_none (by rw [List.length_append, List.length_singleton]; omega)] at hz'
      cases hz'
theorem RW.lng {A : Abs} {σ : Sto} (h : RW A σ) (x : Int64) : RW (setR A x) (wrL σ 117 x) := by
  obtain ⟨b, c, p, i, q, t, r⟩ := h
  exact ⟨b, c, p, i, q, t, by unfold wrL; simp⟩
theorem frM_wrL {σ : Sto} {x : Int64} : FrM σ (wrL σ 117 x) := ⟨fun _ _ => rfl, fun c hc => by unfold wrL; simp [hc]⟩
set_option maxRecDepth 100000 in
theorem b_X8_sees {S : Scr} (m : Int32) (l : Nat) (hl : l < 4) (i : Nat) (hi : i < 4) (τ : Sto) {Q : Option Value → Sto → Prop} (ht : τ.1 117 8 = nI l) (K : Ev S RX8 cX8_sees 3 (some .int) 1 25 [.ref 117, .int m, .int (nI (i + 1))] [] (wr τ 124 (4 * l + i) (τ.1 120 i)) (Q)) : Ev S RX8 cX8_sees 3 (some .int) 1 25 [.ref 117, .int m, .int (nI i)] [] τ (Q) := by
  refine ev_iload_n_2 (pc := 25) dX8_sees_25 ?_
  refine ev_iconst (pc := 26) (v := 4) dX8_sees_26 (by decide) ?_
  refine ev_icmp_ge (pc := 27) (tgt := 57) dX8_sees_27 (by decide) (fun h27 => by exact absurd h27 (nI_ge (a := i) (b := 4) hi (by decide))) (fun h27 => ?_)
  refine ev_aload_n_0 (pc := 30) dX8_sees_30 ?_
  refine ev_getR (pc := 31) (r := 124) dX8_sees_31 fl_X8_29 (by decide) (by decide) (by decide) (by decide) ?_
  refine ev_iconst (pc := 34) (v := 4) dX8_sees_34 (by decide) ?_
  refine ev_aload_n_0 (pc := 35) dX8_sees_35 ?_
  refine ev_getI (pc := 36) dX8_sees_36 fl_X8_116 (by decide) (by decide) (by decide) ?_
  refine ev_imulc (pc := 39) (v := nI (4 * l)) dX8_sees_39 (by rw [ht]; exact nI_mul 4 l) ?_
  refine ev_iload_n_2 (pc := 40) dX8_sees_40 ?_
  refine ev_iaddc (pc := 41) (v := nI ((4 * l) + i)) dX8_sees_41 (nI_add (4 * l) i) ?_
  refine ev_aload_n_0 (pc := 42) dX8_sees_42 ?_
  refine ev_getR (pc := 43) (r := 120) dX8_sees_43 fl_X8_16 (by decide) (by decide) (by decide) (by decide) ?_
  refine ev_iconst (pc := 46) (v := 0) dX8_sees_46 (by decide) ?_
  refine ev_iload_n_2 (pc := 47) dX8_sees_47 ?_
  refine ev_iaddc (pc := 48) (v := nI i) dX8_sees_48 (nI_zadd i) ?_
  refine ev_iaload' (pc := 49) (j := i) dX8_sees_49 (by decide) (by decide) (show vp_in _ 11 from (vp_in_nI (by omega) (by decide))) (nI_clamp (by omega)) ?_
  refine ev_iastore' (pc := 50) (j := ((4 * l) + i)) dX8_sees_50 (by decide) (by decide) (show vp_in _ 16 from (vp_in_nI (by omega) (by decide))) (nI_clamp (by omega)) ?_
  refine ev_iinc_2 (pc := 51) (v := nI (i + 1)) dX8_sees_51 (nI_inc i) (by decide) ?_
  refine ev_goto (pc := 54) (tgt := 25) dX8_sees_54 (by decide) ?_
  exact K
theorem m_X8_sees {S : Scr} {A : Abs} (m : Int32) (hm : ¬ m < 0 ∧ m < 9) (hl : (aS A).length < 4) (σ : Sto) (h : RM A σ) (hA : AI (setS A (aS A ++ [((aC A).1, m)]))) : Mt S yX8_sees cX8_sees 3 (some .int) 1 [.ref 117, .int m] σ (PM (setS A (aS A ++ [((aC A).1, m)])) σ (nI ((aS A).length + 1))) := by
  refine mt_of (ls := [.ref 117, .int m, .null]) (by decide) rfl (Nat.le_of_ble_eq_true rfl) (by simp [Value.category]) ?_
  have ht := h.told
  refine ev_iload_n_1 (pc := 0) dX8_sees_0 ?_
  refine ev_iconst (pc := 1) (v := 0) dX8_sees_1 (by decide) ?_
  refine ev_bipush (pc := 2) (v := 8) dX8_sees_2 (by decide) ?_
  refine ev_callS1 (pc := 4) dX8_sees_4 ml_X8_54 (m_X8_in _ _ _ σ) rfl (by decide) rfl (Nat.le_of_ble_eq_true rfl) ?_
  rw [in08 hm]
  refine ev_if_ne (pc := 7) (tgt := 12) dX8_sees_7 (by decide) (fun h7 => ?_) (fun h7 => by exact absurd h7 (by decide))
  refine ev_aload_n_0 (pc := 12) dX8_sees_12 ?_
  refine ev_getI (pc := 13) dX8_sees_13 fl_X8_116 (by decide) (by decide) (by decide) ?_
  rw [ht]
  refine ev_iconst (pc := 16) (v := 4) dX8_sees_16 (by decide) ?_
  refine ev_icmp_ne (pc := 17) (tgt := 23) dX8_sees_17 (by decide) (fun h17 => ?_) (fun h17 => by exact absurd (nI_inj (b := 4) h17 (by omega) (by decide)) (by omega))
  refine ev_iconst (pc := 23) (v := 0) dX8_sees_23 (by decide) ?_
  refine ev_istore_n_2 (pc := 24) dX8_sees_24 (by decide) ?_
  have key : Ev S RX8 cX8_sees 3 (some .int) 1 25 [.ref 117, .int m, .int (nI 4)] [] (cpk σ 120 0 124 (4 * (aS A).length) 4) (PM (setS A (aS A ++ [((aC A).1, m)])) σ (nI ((aS A).length + 1))) → Ev S RX8 cX8_sees 3 (some .int) 1 25 [.ref 117, .int m, .int (nI 0)] [] σ (PM (setS A (aS A ++ [((aC A).1, m)])) σ (nI ((aS A).length + 1))) := fun z => by
    have := for_up 4 (fun i (_ : Unit) => Ev S RX8 cX8_sees 3 (some .int) 1 25 [.ref 117, .int m, .int (nI i)] [] (cpk σ 120 0 124 (4 * (aS A).length) i) (PM (setS A (aS A ++ [((aC A).1, m)])) σ (nI ((aS A).length + 1)))) (fun _ u => u) (fun i _ hi K => b_X8_sees m _ hl i hi _ (by rw [cpk_ne (by decide)]; exact ht) (by
      have e := cpk_s σ 120 0 124 (4 * (aS A).length) i
      rw [Nat.zero_add] at e
      rw [cpk_ne (σ := σ) (c := 120) (by decide), e]; exact K)) () z
    rw [cpk_0] at this
    exact this
  refine key ?_
  have ht2 : (cpk σ 120 0 124 (4 * (aS A).length) 4).1 117 8 = nI (aS A).length := by rw [cpk_ne (by decide)]; exact ht
  refine ev_iload_n_2 (pc := 25) dX8_sees_25 ?_
  refine ev_iconst (pc := 26) (v := 4) dX8_sees_26 (by decide) ?_
  refine ev_icmp_ge (pc := 27) (tgt := 57) dX8_sees_27 (by decide) (fun h27 => ?_) (fun h27 => by exact absurd h27 (by decide))
  refine ev_aload_n_0 (pc := 57) dX8_sees_57 ?_
  refine ev_getR (pc := 58) (r := 125) dX8_sees_58 fl_X8_32 (by decide) (by decide) (by decide) (by decide) ?_
  refine ev_aload_n_0 (pc := 61) dX8_sees_61 ?_
  refine ev_getI (pc := 62) dX8_sees_62 fl_X8_116 (by decide) (by decide) (by decide) ?_
  rw [ht2]
  refine ev_iload_n_1 (pc := 65) dX8_sees_65 ?_
  refine ev_iastore' (pc := 66) (j := (aS A).length) dX8_sees_66 (by decide) (by decide) (show vp_in _ 4 from (vp_in_nI (by omega) (by decide))) (nI_clamp (by omega)) ?_
  refine ev_aload_n_0 (pc := 67) dX8_sees_67 ?_
  refine ev_dup (pc := 68) dX8_sees_68 rfl ?_
  refine ev_getI (pc := 69) dX8_sees_69 fl_X8_116 (by decide) (by decide) (by decide) ?_
  rw [wr_ne (by decide), ht2]
  refine ev_iconst (pc := 72) (v := 1) dX8_sees_72 (by decide) ?_
  refine ev_iadd (pc := 73) dX8_sees_73 ?_
  rw [nI_s1]
  refine ev_putI (pc := 74) dX8_sees_74 fl_X8_116 (by decide) (by decide) (by decide) ?_
  refine ev_aload_n_0 (pc := 77) dX8_sees_77 ?_
  refine ev_getI (pc := 78) dX8_sees_78 fl_X8_116 (by decide) (by decide) (by decide) ?_
  exact ev_ireturn (pc := 81) dX8_sees_81 rfl rfl (⟨by rw [wr_at], ⟨hA, RW.see h.2 m⟩, FrM.of (fun c hc => by rw [wr_ne (by omega), wr_ne (by omega), cpk_ne (by omega)]) rfl⟩)
set_option maxRecDepth 100000 in
theorem m_X8_sees1 {S : Scr} {A : Abs} (m : Int32) (hm : ¬ m < 0 ∧ m < 9) (hl : (aS A).length = 4) (σ : Sto) (h : RM A σ) : Mt S yX8_sees cX8_sees 3 (some .int) 1 [.ref 117, .int m] σ (Is (some (.int (-3))) σ) := by
  refine mt_of (ls := [.ref 117, .int m, .null]) (by decide) rfl (Nat.le_of_ble_eq_true rfl) (by simp [Value.category]) ?_
  have ht := h.told
  rw [hl] at ht
  refine ev_iload_n_1 (pc := 0) dX8_sees_0 ?_
  refine ev_iconst (pc := 1) (v := 0) dX8_sees_1 (by decide) ?_
  refine ev_bipush (pc := 2) (v := 8) dX8_sees_2 (by decide) ?_
  refine ev_callS1 (pc := 4) dX8_sees_4 ml_X8_54 (m_X8_in _ _ _ σ) rfl (by decide) rfl (Nat.le_of_ble_eq_true rfl) ?_
  rw [in08 hm]
  refine ev_if_ne (pc := 7) (tgt := 12) dX8_sees_7 (by decide) (fun h7 => ?_) (fun h7 => by exact absurd h7 (by decide))
  refine ev_aload_n_0 (pc := 12) dX8_sees_12 ?_
  refine ev_getI (pc := 13) dX8_sees_13 fl_X8_116 (by decide) (by decide) (by decide) ?_
  refine ev_iconst (pc := 16) (v := 4) dX8_sees_16 (by decide) ?_
  refine ev_icmp_ne (pc := 17) (tgt := 23) dX8_sees_17 (by decide) (fun h17 => by exact absurd ht h17) (fun h17 => ?_)
  refine ev_bipush (pc := 20) (v := (-3)) dX8_sees_20 (by decide) ?_
  exact ev_ireturn (pc := 22) dX8_sees_22 rfl rfl (⟨rfl, rfl⟩)
set_option maxRecDepth 100000 in
theorem m_X8_sees0 {S : Scr} (m : Int32) (hm : ¬ (¬ m < 0 ∧ m < 9)) (σ : Sto) : Mt S yX8_sees cX8_sees 3 (some .int) 1 [.ref 117, .int m] σ (Is (some (.int (-1))) σ) := by
  refine mt_of (ls := [.ref 117, .int m, .null]) (by decide) rfl (Nat.le_of_ble_eq_true rfl) (by simp [Value.category]) ?_
  refine ev_iload_n_1 (pc := 0) dX8_sees_0 ?_
  refine ev_iconst (pc := 1) (v := 0) dX8_sees_1 (by decide) ?_
  refine ev_bipush (pc := 2) (v := 8) dX8_sees_2 (by decide) ?_
  refine ev_callS1 (pc := 4) dX8_sees_4 ml_X8_54 (m_X8_in _ _ _ σ) rfl (by decide) rfl (Nat.le_of_ble_eq_true rfl) ?_
  rw [bI_f (fun z => hm ⟨Int32.not_lt.mpr z.1, le8_lt9 z.2⟩)]
  refine ev_if_ne (pc := 7) (tgt := 12) dX8_sees_7 (by decide) (fun h7 => by exact absurd rfl h7) (fun h7 => ?_)
  refine ev_iconst (pc := 10) (v := (-1)) dX8_sees_10 (by decide) ?_
  exact ev_ireturn (pc := 11) dX8_sees_11 rfl rfl (⟨rfl, rfl⟩)
theorem rate_fin {A : Abs} {σ : Sto} {x y : Int64} (h : RM A σ) (e : (nowW σ).2 117 + x = y) : RM (setR A y) (wrL (nowW σ) 117 ((nowW σ).2 117 + x)) := by
  subst e
  exact ⟨h.1, RW.lng (h.mv (mls_now σ)).2 _⟩
theorem nwR.lng {A : Abs} {σ : Sto} {s : Scn} (h : nwR A σ s) (x : Int64) : nwR A (wrL σ 117 x) s := ⟨h.1, h.2.1, h.2.2.1, h.2.2.2⟩
theorem lng_as (x a b c : Int64) (h : a + b = c) : x + a + b = x + c := by rw [Int64.add_assoc, h]
theorem rt_0 (x : Int64) : x + 1 = x + 1 := rfl
set_option maxRecDepth 100000 in
theorem m_X8_rate_0 {S : Scr} {A : Abs} (b : Nat) (hb : b < aN A) (σ : Sto) (h : RM A σ) : Mt S yX8_rate cX8_rate 6 (some .int) 5 [.ref 117, .int 0, .int (nI b)] σ (PM (setR A (aR A + 1)) σ (mindA A b)) := by
  refine mt_of (ls := [.ref 117, .int 0, .int (nI b), .null, .null, .null]) (by decide) rfl (Nat.le_of_ble_eq_true rfl) (by simp [Value.category]) ?_
  have hb6 : b < 6 := Nat.lt_of_lt_of_le hb h.n6
  have hN := h.mv (mls_now σ)
  have hB : (nowW σ).1 119 b = aB A b := (hN.2.1.2 b hb).2
  have hT : (nowW σ).2 117 + 1 = aR A + 1 := by rw [hN.2.2.2.2.2.2.2]
  refine ev_iload_n_1 (pc := 0) dX8_rate_0 ?_
  refine ev_iconst (pc := 1) (v := 0) dX8_rate_1 (by decide) ?_
  refine ev_iconst (pc := 2) (v := 5) dX8_rate_2 (by decide) ?_
  refine ev_callS1 (pc := 3) dX8_rate_3 ml_X8_54 (m_X8_in _ _ _ σ) rfl (by decide) rfl (Nat.le_of_ble_eq_true rfl) ?_
  rw [show bI ((0 : Int32) ≤ 0 ∧ 0 ≤ (5 : Int32)) = 1 from by decide]
  refine ev_if_eq (pc := 6) (tgt := 17) dX8_rate_6 (by decide) (fun h6 => by exact absurd h6 (by decide)) (fun h6 => ?_)
  refine ev_aload_n_0 (pc := 9) dX8_rate_9 ?_
  refine ev_iload_n_2 (pc := 10) dX8_rate_10 ?_
  refine ev_callV1 (pc := 11) dX8_rate_11 ml_X8_154 (m_X8_isBrother _ σ h) (by decide) ⟨_, rfl, rfl⟩ rfl (by decide) rfl (Nat.le_of_ble_eq_true rfl) ?_
  rw [brE h.1 hb]
  refine ev_if_ne (pc := 14) (tgt := 20) dX8_rate_14 (by decide) (fun h14 => ?_) (fun h14 => by exact absurd h14 (by decide))
  refine ev_aload_n_0 (pc := 20) dX8_rate_20 ?_
  refine ev_callV0 (pc := 21) dX8_rate_21 ml_X8_157 (m_X8_asItIs σ) (by decide) ⟨_, rfl, rfl⟩ rfl (by decide) rfl (Nat.le_of_ble_eq_true rfl) ?_
  refine ev_aload_n_0 (pc := 24) dX8_rate_24 ?_
  refine ev_iload_n_2 (pc := 25) dX8_rate_25 ?_
  refine ev_callV1 (pc := 26) dX8_rate_26 ml_X8_144 (m_X8_mind b hb _ h.nwR) (by decide) ⟨_, rfl, rfl⟩ rfl (by decide) rfl (Nat.le_of_ble_eq_true rfl) ?_
  refine ev_istore_n_3 (pc := 29) dX8_rate_29 (by decide) ?_
  refine ev_iload_n_3 (pc := 30) dX8_rate_30 ?_
  refine ev_aload_n_0 (pc := 31) dX8_rate_31 ?_
  refine ev_getR (pc := 32) (r := 119) dX8_rate_32 fl_X8_13 (by decide) (by decide) (by decide) (by decide) ?_
  refine ev_iload_n_2 (pc := 35) dX8_rate_35 ?_
  refine ev_iaload' (pc := 36) (j := b) dX8_rate_36 (by decide) (by decide) (show vp_in _ 6 from (vp_in_nI (by omega) (by decide))) (nI_clamp (by omega)) ?_
  rw [hB]
  refine ev_iadd (pc := 37) dX8_rate_37 ?_
  refine ev_istore_4 (pc := 38) dX8_rate_38 (by decide) ?_
  refine ev_iload_n_3 (pc := 40) dX8_rate_40 ?_
  refine ev_aload_n_0 (pc := 41) dX8_rate_41 ?_
  refine ev_iload_n_2 (pc := 42) dX8_rate_42 ?_
  refine ev_callV1 (pc := 43) dX8_rate_43 ml_X8_141 (m_X8_mien b hb _ h.nwR) (by decide) ⟨_, rfl, rfl⟩ rfl (by decide) rfl (Nat.le_of_ble_eq_true rfl) ?_
  refine ev_isub (pc := 46) dX8_rate_46 ?_
  refine ev_istore_5 (pc := 47) dX8_rate_47 (by decide) ?_
  refine ev_iload_n_1 (pc := 49) dX8_rate_49 ?_
  refine ev_tableOut (pc := 50) (tgt := 167) dX8_rate_50 (by decide) (by decide) ?_
  refine ev_aload_n_0 (pc := 167) dX8_rate_167 ?_
  refine ev_dup (pc := 168) dX8_rate_168 rfl ?_
  refine ev_getL (pc := 169) dX8_rate_169 fl_X8_215 (by decide) (by decide) (by decide) ?_
  refine ev_lconst (pc := 172) (v := 1) dX8_rate_172 (by decide) ?_
  refine ev_ladd (pc := 173) dX8_rate_173 ?_
  refine ev_putL (pc := 174) dX8_rate_174 fl_X8_215 (by decide) (by decide) (by decide) (by decide) ?_
  refine ev_iload_n_3 (pc := 177) dX8_rate_177 ?_
  exact ev_ireturn (pc := 178) dX8_rate_178 rfl rfl (⟨rfl, rate_fin h hT, (mls_now σ).fr.tr frM_wrL⟩)
theorem rt_1 (x : Int64) : x + 11 = x + 10 + 1 := (lng_as _ _ _ _ (by decide +kernel)).symm
set_option maxRecDepth 100000 in
theorem m_X8_rate_1 {S : Scr} {A : Abs} (b : Nat) (hb : b < aN A) (σ : Sto) (h : RM A σ) : Mt S yX8_rate cX8_rate 6 (some .int) 5 [.ref 117, .int 1, .int (nI b)] σ (PM (setR A (aR A + 10 + 1)) σ (mindA A b + aB A b)) := by
  refine mt_of (ls := [.ref 117, .int 1, .int (nI b), .null, .null, .null]) (by decide) rfl (Nat.le_of_ble_eq_true rfl) (by simp [Value.category]) ?_
  have hb6 : b < 6 := Nat.lt_of_lt_of_le hb h.n6
  have hN := h.mv (mls_now σ)
  have hB : (nowW σ).1 119 b = aB A b := (hN.2.1.2 b hb).2
  have hT : (nowW σ).2 117 + 11 = aR A + 10 + 1 := by rw [hN.2.2.2.2.2.2.2]; exact rt_1 _
  refine ev_iload_n_1 (pc := 0) dX8_rate_0 ?_
  refine ev_iconst (pc := 1) (v := 0) dX8_rate_1 (by decide) ?_
  refine ev_iconst (pc := 2) (v := 5) dX8_rate_2 (by decide) ?_
  refine ev_callS1 (pc := 3) dX8_rate_3 ml_X8_54 (m_X8_in _ _ _ σ) rfl (by decide) rfl (Nat.le_of_ble_eq_true rfl) ?_
  rw [show bI ((0 : Int32) ≤ 1 ∧ 1 ≤ (5 : Int32)) = 1 from by decide]
  refine ev_if_eq (pc := 6) (tgt := 17) dX8_rate_6 (by decide) (fun h6 => by exact absurd h6 (by decide)) (fun h6 => ?_)
  refine ev_aload_n_0 (pc := 9) dX8_rate_9 ?_
  refine ev_iload_n_2 (pc := 10) dX8_rate_10 ?_
  refine ev_callV1 (pc := 11) dX8_rate_11 ml_X8_154 (m_X8_isBrother _ σ h) (by decide) ⟨_, rfl, rfl⟩ rfl (by decide) rfl (Nat.le_of_ble_eq_true rfl) ?_
  rw [brE h.1 hb]
  refine ev_if_ne (pc := 14) (tgt := 20) dX8_rate_14 (by decide) (fun h14 => ?_) (fun h14 => by exact absurd h14 (by decide))
  refine ev_aload_n_0 (pc := 20) dX8_rate_20 ?_
  refine ev_callV0 (pc := 21) dX8_rate_21 ml_X8_157 (m_X8_asItIs σ) (by decide) ⟨_, rfl, rfl⟩ rfl (by decide) rfl (Nat.le_of_ble_eq_true rfl) ?_
  refine ev_aload_n_0 (pc := 24) dX8_rate_24 ?_
  refine ev_iload_n_2 (pc := 25) dX8_rate_25 ?_
  refine ev_callV1 (pc := 26) dX8_rate_26 ml_X8_144 (m_X8_mind b hb _ h.nwR) (by decide) ⟨_, rfl, rfl⟩ rfl (by decide) rfl (Nat.le_of_ble_eq_true rfl) ?_
  refine ev_istore_n_3 (pc := 29) dX8_rate_29 (by decide) ?_
  refine ev_iload_n_3 (pc := 30) dX8_rate_30 ?_
  refine ev_aload_n_0 (pc := 31) dX8_rate_31 ?_
  refine ev_getR (pc := 32) (r := 119) dX8_rate_32 fl_X8_13 (by decide) (by decide) (by decide) (by decide) ?_
  refine ev_iload_n_2 (pc := 35) dX8_rate_35 ?_
  refine ev_iaload' (pc := 36) (j := b) dX8_rate_36 (by decide) (by decide) (show vp_in _ 6 from (vp_in_nI (by omega) (by decide))) (nI_clamp (by omega)) ?_
  rw [hB]
  refine ev_iadd (pc := 37) dX8_rate_37 ?_
  refine ev_istore_4 (pc := 38) dX8_rate_38 (by decide) ?_
  refine ev_iload_n_3 (pc := 40) dX8_rate_40 ?_
  refine ev_aload_n_0 (pc := 41) dX8_rate_41 ?_
  refine ev_iload_n_2 (pc := 42) dX8_rate_42 ?_
  refine ev_callV1 (pc := 43) dX8_rate_43 ml_X8_141 (m_X8_mien b hb _ h.nwR) (by decide) ⟨_, rfl, rfl⟩ rfl (by decide) rfl (Nat.le_of_ble_eq_true rfl) ?_
  refine ev_isub (pc := 46) dX8_rate_46 ?_
  refine ev_istore_5 (pc := 47) dX8_rate_47 (by decide) ?_
  refine ev_iload_n_1 (pc := 49) dX8_rate_49 ?_
  refine ev_tableIn (pc := 50) (off := 34) (tgt := 84) dX8_rate_50 (by decide) (by decide) (by decide) (by decide) ?_
  refine ev_aload_n_0 (pc := 84) dX8_rate_84 ?_
  refine ev_dup (pc := 85) dX8_rate_85 rfl ?_
  refine ev_getL (pc := 86) dX8_rate_86 fl_X8_215 (by decide) (by decide) (by decide) ?_
  refine ev_ldc2 (pc := 89) dX8_rate_89 k_X8_219 ?_
  refine ev_ladd (pc := 92) dX8_rate_92 ?_
  skip
  refine ev_putL (pc := 93) dX8_rate_93 fl_X8_215 (by decide) (by decide) (by decide) (by decide) ?_
  refine ev_iload_4 (pc := 96) dX8_rate_96 ?_
  exact ev_ireturn (pc := 98) dX8_rate_98 rfl rfl (⟨rfl, rate_fin h hT, (mls_now σ).fr.tr frM_wrL⟩)
theorem rt_2 (x : Int64) : x + 101 = x + 100 + 1 := (lng_as _ _ _ _ (by decide +kernel)).symm
set_option maxRecDepth 100000 in
theorem m_X8_rate_2 {S : Scr} {A : Abs} (b : Nat) (hb : b < aN A) (σ : Sto) (h : RM A σ) : Mt S yX8_rate cX8_rate 6 (some .int) 5 [.ref 117, .int 2, .int (nI b)] σ (PM (setR A (aR A + 100 + 1)) σ (mindA A b - mienA A b)) := by
  refine mt_of (ls := [.ref 117, .int 2, .int (nI b), .null, .null, .null]) (by decide) rfl (Nat.le_of_ble_eq_true rfl) (by simp [Value.category]) ?_
  have hb6 : b < 6 := Nat.lt_of_lt_of_le hb h.n6
  have hN := h.mv (mls_now σ)
  have hB : (nowW σ).1 119 b = aB A b := (hN.2.1.2 b hb).2
  have hT : (nowW σ).2 117 + 101 = aR A + 100 + 1 := by rw [hN.2.2.2.2.2.2.2]; exact rt_2 _
  refine ev_iload_n_1 (pc := 0) dX8_rate_0 ?_
  refine ev_iconst (pc := 1) (v := 0) dX8_rate_1 (by decide) ?_
  refine ev_iconst (pc := 2) (v := 5) dX8_rate_2 (by decide) ?_
  refine ev_callS1 (pc := 3) dX8_rate_3 ml_X8_54 (m_X8_in _ _ _ σ) rfl (by decide) rfl (Nat.le_of_ble_eq_true rfl) ?_
  rw [show bI ((0 : Int32) ≤ 2 ∧ 2 ≤ (5 : Int32)) = 1 from by decide]
  refine ev_if_eq (pc := 6) (tgt := 17) dX8_rate_6 (by decide) (fun h6 => by exact absurd h6 (by decide)) (fun h6 => ?_)
  refine ev_aload_n_0 (pc := 9) dX8_rate_9 ?_
  refine ev_iload_n_2 (pc := 10) dX8_rate_10 ?_
  refine ev_callV1 (pc := 11) dX8_rate_11 ml_X8_154 (m_X8_isBrother _ σ h) (by decide) ⟨_, rfl, rfl⟩ rfl (by decide) rfl (Nat.le_of_ble_eq_true rfl) ?_
  rw [brE h.1 hb]
  refine ev_if_ne (pc := 14) (tgt := 20) dX8_rate_14 (by decide) (fun h14 => ?_) (fun h14 => by exact absurd h14 (by decide))
  refine ev_aload_n_0 (pc := 20) dX8_rate_20 ?_
  refine ev_callV0 (pc := 21) dX8_rate_21 ml_X8_157 (m_X8_asItIs σ) (by decide) ⟨_, rfl, rfl⟩ rfl (by decide) rfl (Nat.le_of_ble_eq_true rfl) ?_
  refine ev_aload_n_0 (pc := 24) dX8_rate_24 ?_
  refine ev_iload_n_2 (pc := 25) dX8_rate_25 ?_
  refine ev_callV1 (pc := 26) dX8_rate_26 ml_X8_144 (m_X8_mind b hb _ h.nwR) (by decide) ⟨_, rfl, rfl⟩ rfl (by decide) rfl (Nat.le_of_ble_eq_true rfl) ?_
  refine ev_istore_n_3 (pc := 29) dX8_rate_29 (by decide) ?_
  refine ev_iload_n_3 (pc := 30) dX8_rate_30 ?_
  refine ev_aload_n_0 (pc := 31) dX8_rate_31 ?_
  refine ev_getR (pc := 32) (r := 119) dX8_rate_32 fl_X8_13 (by decide) (by decide) (by decide) (by decide) ?_
  refine ev_iload_n_2 (pc := 35) dX8_rate_35 ?_
  refine ev_iaload' (pc := 36) (j := b) dX8_rate_36 (by decide) (by decide) (show vp_in _ 6 from (vp_in_nI (by omega) (by decide))) (nI_clamp (by omega)) ?_
  rw [hB]
  refine ev_iadd (pc := 37) dX8_rate_37 ?_
  refine ev_istore_4 (pc := 38) dX8_rate_38 (by decide) ?_
  refine ev_iload_n_3 (pc := 40) dX8_rate_40 ?_
  refine ev_aload_n_0 (pc := 41) dX8_rate_41 ?_
  refine ev_iload_n_2 (pc := 42) dX8_rate_42 ?_
  refine ev_callV1 (pc := 43) dX8_rate_43 ml_X8_141 (m_X8_mien b hb _ h.nwR) (by decide) ⟨_, rfl, rfl⟩ rfl (by decide) rfl (Nat.le_of_ble_eq_true rfl) ?_
  refine ev_isub (pc := 46) dX8_rate_46 ?_
  refine ev_istore_5 (pc := 47) dX8_rate_47 (by decide) ?_
  refine ev_iload_n_1 (pc := 49) dX8_rate_49 ?_
  refine ev_tableIn (pc := 50) (off := 49) (tgt := 99) dX8_rate_50 (by decide) (by decide) (by decide) (by decide) ?_
  refine ev_aload_n_0 (pc := 99) dX8_rate_99 ?_
  refine ev_dup (pc := 100) dX8_rate_100 rfl ?_
  refine ev_getL (pc := 101) dX8_rate_101 fl_X8_215 (by decide) (by decide) (by decide) ?_
  refine ev_ldc2 (pc := 104) dX8_rate_104 k_X8_221 ?_
  refine ev_ladd (pc := 107) dX8_rate_107 ?_
  refine ev_putL (pc := 108) dX8_rate_108 fl_X8_215 (by decide) (by decide) (by decide) (by decide) ?_
  refine ev_iload_5 (pc := 111) dX8_rate_111 ?_
  exact ev_ireturn (pc := 113) dX8_rate_113 rfl rfl (⟨rfl, rate_fin h hT, (mls_now σ).fr.tr frM_wrL⟩)
theorem rt_3 (x : Int64) : x + 1011 = x + 1000 + 10 + 1 := (by rw [lng_as _ 1000 10 1010 (by decide +kernel), lng_as _ 1010 1 1011 (by decide +kernel)])
set_option maxRecDepth 100000 in
theorem m_X8_rate_3 {S : Scr} {A : Abs} (b : Nat) (hb : b < aN A) (σ : Sto) (h : RM A σ) : Mt S yX8_rate cX8_rate 6 (some .int) 5 [.ref 117, .int 3, .int (nI b)] σ (PM (setR A (aR A + 1000 + 10 + 1)) σ (2 * (mindA A b + aB A b))) := by
  refine mt_of (ls := [.ref 117, .int 3, .int (nI b), .null, .null, .null]) (by decide) rfl (Nat.le_of_ble_eq_true rfl) (by simp [Value.category]) ?_
  have hb6 : b < 6 := Nat.lt_of_lt_of_le hb h.n6
  have hN := h.mv (mls_now σ)
  have hB : (nowW σ).1 119 b = aB A b := (hN.2.1.2 b hb).2
  have hT : (nowW σ).2 117 + 1011 = aR A + 1000 + 10 + 1 := by rw [hN.2.2.2.2.2.2.2]; exact rt_3 _
  refine ev_iload_n_1 (pc := 0) dX8_rate_0 ?_
  refine ev_iconst (pc := 1) (v := 0) dX8_rate_1 (by decide) ?_
  refine ev_iconst (pc := 2) (v := 5) dX8_rate_2 (by decide) ?_
  refine ev_callS1 (pc := 3) dX8_rate_3 ml_X8_54 (m_X8_in _ _ _ σ) rfl (by decide) rfl (Nat.le_of_ble_eq_true rfl) ?_
  rw [show bI ((0 : Int32) ≤ 3 ∧ 3 ≤ (5 : Int32)) = 1 from by decide]
  refine ev_if_eq (pc := 6) (tgt := 17) dX8_rate_6 (by decide) (fun h6 => by exact absurd h6 (by decide)) (fun h6 => ?_)
  refine ev_aload_n_0 (pc := 9) dX8_rate_9 ?_
  refine ev_iload_n_2 (pc := 10) dX8_rate_10 ?_
  refine ev_callV1 (pc := 11) dX8_rate_11 ml_X8_154 (m_X8_isBrother _ σ h) (by decide) ⟨_, rfl, rfl⟩ rfl (by decide) rfl (Nat.le_of_ble_eq_true rfl) ?_
  rw [brE h.1 hb]
  refine ev_if_ne (pc := 14) (tgt := 20) dX8_rate_14 (by decide) (fun h14 => ?_) (fun h14 => by exact absurd h14 (by decide))
  refine ev_aload_n_0 (pc := 20) dX8_rate_20 ?_
  refine ev_callV0 (pc := 21) dX8_rate_21 ml_X8_157 (m_X8_asItIs σ) (by decide) ⟨_, rfl, rfl⟩ rfl (by decide) rfl (Nat.le_of_ble_eq_true rfl) ?_
  refine ev_aload_n_0 (pc := 24) dX8_rate_24 ?_
  refine ev_iload_n_2 (pc := 25) dX8_rate_25 ?_
  refine ev_callV1 (pc := 26) dX8_rate_26 ml_X8_144 (m_X8_mind b hb _ h.nwR) (by decide) ⟨_, rfl, rfl⟩ rfl (by decide) rfl (Nat.le_of_ble_eq_true rfl) ?_
  refine ev_istore_n_3 (pc := 29) dX8_rate_29 (by decide) ?_
  refine ev_iload_n_3 (pc := 30) dX8_rate_30 ?_
  refine ev_aload_n_0 (pc := 31) dX8_rate_31 ?_
  refine ev_getR (pc := 32) (r := 119) dX8_rate_32 fl_X8_13 (by decide) (by decide) (by decide) (by decide) ?_
  refine ev_iload_n_2 (pc := 35) dX8_rate_35 ?_
  refine ev_iaload' (pc := 36) (j := b) dX8_rate_36 (by decide) (by decide) (show vp_in _ 6 from (vp_in_nI (by omega) (by decide))) (nI_clamp (by omega)) ?_
  rw [hB]
  refine ev_iadd (pc := 37) dX8_rate_37 ?_
  refine ev_istore_4 (pc := 38) dX8_rate_38 (by decide) ?_
  refine ev_iload_n_3 (pc := 40) dX8_rate_40 ?_
  refine ev_aload_n_0 (pc := 41) dX8_rate_41 ?_
  refine ev_iload_n_2 (pc := 42) dX8_rate_42 ?_
  refine ev_callV1 (pc := 43) dX8_rate_43 ml_X8_141 (m_X8_mien b hb _ h.nwR) (by decide) ⟨_, rfl, rfl⟩ rfl (by decide) rfl (Nat.le_of_ble_eq_true rfl) ?_
  refine ev_isub (pc := 46) dX8_rate_46 ?_
  refine ev_istore_5 (pc := 47) dX8_rate_47 (by decide) ?_
  refine ev_iload_n_1 (pc := 49) dX8_rate_49 ?_
  refine ev_tableIn (pc := 50) (off := 64) (tgt := 114) dX8_rate_50 (by decide) (by decide) (by decide) (by decide) ?_
  refine ev_aload_n_0 (pc := 114) dX8_rate_114 ?_
  refine ev_dup (pc := 115) dX8_rate_115 rfl ?_
  refine ev_getL (pc := 116) dX8_rate_116 fl_X8_215 (by decide) (by decide) (by decide) ?_
  refine ev_ldc2 (pc := 119) dX8_rate_119 k_X8_223 ?_
  refine ev_ladd (pc := 122) dX8_rate_122 ?_
  refine ev_putL (pc := 123) dX8_rate_123 fl_X8_215 (by decide) (by decide) (by decide) (by decide) ?_
  refine ev_iconst (pc := 126) (v := 2) dX8_rate_126 (by decide) ?_
  refine ev_iload_4 (pc := 127) dX8_rate_127 ?_
  refine ev_imul (pc := 129) dX8_rate_129 ?_
  exact ev_ireturn (pc := 130) dX8_rate_130 rfl rfl (⟨rfl, rate_fin h hT, (mls_now σ).fr.tr frM_wrL⟩)
theorem rt_4 (x : Int64) : x + 10101 = x + 10000 + 100 + 1 := (by rw [lng_as _ 10000 100 10100 (by decide +kernel), lng_as _ 10100 1 10101 (by decide +kernel)])
set_option maxRecDepth 100000 in
theorem m_X8_rate_4 {S : Scr} {A : Abs} (b : Nat) (hb : b < aN A) (σ : Sto) (h : RM A σ) : Mt S yX8_rate cX8_rate 6 (some .int) 5 [.ref 117, .int 4, .int (nI b)] σ (PM (setR A (aR A + 10000 + 100 + 1)) σ (mindA A b - mienA A b + nI b)) := by
  refine mt_of (ls := [.ref 117, .int 4, .int (nI b), .null, .null, .null]) (by decide) rfl (Nat.le_of_ble_eq_true rfl) (by simp [Value.category]) ?_
  have hb6 : b < 6 := Nat.lt_of_lt_of_le hb h.n6
  have hN := h.mv (mls_now σ)
  have hB : (nowW σ).1 119 b = aB A b := (hN.2.1.2 b hb).2
  have hT : (nowW σ).2 117 + 10101 = aR A + 10000 + 100 + 1 := by rw [hN.2.2.2.2.2.2.2]; exact rt_4 _
  refine ev_iload_n_1 (pc := 0) dX8_rate_0 ?_
  refine ev_iconst (pc := 1) (v := 0) dX8_rate_1 (by decide) ?_
  refine ev_iconst (pc := 2) (v := 5) dX8_rate_2 (by decide) ?_
  refine ev_callS1 (pc := 3) dX8_rate_3 ml_X8_54 (m_X8_in _ _ _ σ) rfl (by decide) rfl (Nat.le_of_ble_eq_true rfl) ?_
  rw [show bI ((0 : Int32) ≤ 4 ∧ 4 ≤ (5 : Int32)) = 1 from by decide]
  refine ev_if_eq (pc := 6) (tgt := 17) dX8_rate_6 (by decide) (fun h6 => by exact absurd h6 (by decide)) (fun h6 => ?_)
  refine ev_aload_n_0 (pc := 9) dX8_rate_9 ?_
  refine ev_iload_n_2 (pc := 10) dX8_rate_10 ?_
  refine ev_callV1 (pc := 11) dX8_rate_11 ml_X8_154 (m_X8_isBrother _ σ h) (by decide) ⟨_, rfl, rfl⟩ rfl (by decide) rfl (Nat.le_of_ble_eq_true rfl) ?_
  rw [brE h.1 hb]
  refine ev_if_ne (pc := 14) (tgt := 20) dX8_rate_14 (by decide) (fun h14 => ?_) (fun h14 => by exact absurd h14 (by decide))
  refine ev_aload_n_0 (pc := 20) dX8_rate_20 ?_
  refine ev_callV0 (pc := 21) dX8_rate_21 ml_X8_157 (m_X8_asItIs σ) (by decide) ⟨_, rfl, rfl⟩ rfl (by decide) rfl (Nat.le_of_ble_eq_true rfl) ?_
  refine ev_aload_n_0 (pc := 24) dX8_rate_24 ?_
  refine ev_iload_n_2 (pc := 25) dX8_rate_25 ?_
  refine ev_callV1 (pc := 26) dX8_rate_26 ml_X8_144 (m_X8_mind b hb _ h.nwR) (by decide) ⟨_, rfl, rfl⟩ rfl (by decide) rfl (Nat.le_of_ble_eq_true rfl) ?_
  refine ev_istore_n_3 (pc := 29) dX8_rate_29 (by decide) ?_
  refine ev_iload_n_3 (pc := 30) dX8_rate_30 ?_
  refine ev_aload_n_0 (pc := 31) dX8_rate_31 ?_
  refine ev_getR (pc := 32) (r := 119) dX8_rate_32 fl_X8_13 (by decide) (by decide) (by decide) (by decide) ?_
  refine ev_iload_n_2 (pc := 35) dX8_rate_35 ?_
  refine ev_iaload' (pc := 36) (j := b) dX8_rate_36 (by decide) (by decide) (show vp_in _ 6 from (vp_in_nI (by omega) (by decide))) (nI_clamp (by omega)) ?_
  rw [hB]
  refine ev_iadd (pc := 37) dX8_rate_37 ?_
  refine ev_istore_4 (pc := 38) dX8_rate_38 (by decide) ?_
  refine ev_iload_n_3 (pc := 40) dX8_rate_40 ?_
  refine ev_aload_n_0 (pc := 41) dX8_rate_41 ?_
  refine ev_iload_n_2 (pc := 42) dX8_rate_42 ?_
  refine ev_callV1 (pc := 43) dX8_rate_43 ml_X8_141 (m_X8_mien b hb _ h.nwR) (by decide) ⟨_, rfl, rfl⟩ rfl (by decide) rfl (Nat.le_of_ble_eq_true rfl) ?_
  refine ev_isub (pc := 46) dX8_rate_46 ?_
  refine ev_istore_5 (pc := 47) dX8_rate_47 (by decide) ?_
  refine ev_iload_n_1 (pc := 49) dX8_rate_49 ?_
  refine ev_tableIn (pc := 50) (off := 81) (tgt := 131) dX8_rate_50 (by decide) (by decide) (by decide) (by decide) ?_
  refine ev_aload_n_0 (pc := 131) dX8_rate_131 ?_
  refine ev_dup (pc := 132) dX8_rate_132 rfl ?_
  refine ev_getL (pc := 133) dX8_rate_133 fl_X8_215 (by decide) (by decide) (by decide) ?_
  refine ev_ldc2 (pc := 136) dX8_rate_136 k_X8_225 ?_
  refine ev_ladd (pc := 139) dX8_rate_139 ?_
  refine ev_putL (pc := 140) dX8_rate_140 fl_X8_215 (by decide) (by decide) (by decide) (by decide) ?_
  refine ev_iload_5 (pc := 143) dX8_rate_143 ?_
  refine ev_iload_n_2 (pc := 145) dX8_rate_145 ?_
  refine ev_iadd (pc := 146) dX8_rate_146 ?_
  exact ev_ireturn (pc := 147) dX8_rate_147 rfl rfl (⟨rfl, rate_fin h hT, (mls_now σ).fr.tr frM_wrL⟩)
theorem rt_5 (x : Int64) : x + 100001 = x + 100000 + 1 := (lng_as _ _ _ _ (by decide +kernel)).symm
set_option maxRecDepth 100000 in
theorem m_X8_rate_5 {S : Scr} {A : Abs} (b : Nat) (hb : b < aN A) (σ : Sto) (h : RM A σ) : Mt S yX8_rate cX8_rate 6 (some .int) 5 [.ref 117, .int 5, .int (nI b)] σ (PM (setR A (aR A + 100000 + 1)) σ (mindA A b + totA (aC A))) := by
  refine mt_of (ls := [.ref 117, .int 5, .int (nI b), .null, .null, .null]) (by decide) rfl (Nat.le_of_ble_eq_true rfl) (by simp [Value.category]) ?_
  have hb6 : b < 6 := Nat.lt_of_lt_of_le hb h.n6
  have hN := h.mv (mls_now σ)
  have hB : (nowW σ).1 119 b = aB A b := (hN.2.1.2 b hb).2
  have hT : (nowW σ).2 117 + 100001 = aR A + 100000 + 1 := by rw [hN.2.2.2.2.2.2.2]; exact rt_5 _
  refine ev_iload_n_1 (pc := 0) dX8_rate_0 ?_
  refine ev_iconst (pc := 1) (v := 0) dX8_rate_1 (by decide) ?_
  refine ev_iconst (pc := 2) (v := 5) dX8_rate_2 (by decide) ?_
  refine ev_callS1 (pc := 3) dX8_rate_3 ml_X8_54 (m_X8_in _ _ _ σ) rfl (by decide) rfl (Nat.le_of_ble_eq_true rfl) ?_
  rw [show bI ((0 : Int32) ≤ 5 ∧ 5 ≤ (5 : Int32)) = 1 from by decide]
  refine ev_if_eq (pc := 6) (tgt := 17) dX8_rate_6 (by decide) (fun h6 => by exact absurd h6 (by decide)) (fun h6 => ?_)
  refine ev_aload_n_0 (pc := 9) dX8_rate_9 ?_
  refine ev_iload_n_2 (pc := 10) dX8_rate_10 ?_
  refine ev_callV1 (pc := 11) dX8_rate_11 ml_X8_154 (m_X8_isBrother _ σ h) (by decide) ⟨_, rfl, rfl⟩ rfl (by decide) rfl (Nat.le_of_ble_eq_true rfl) ?_
  rw [brE h.1 hb]
  refine ev_if_ne (pc := 14) (tgt := 20) dX8_rate_14 (by decide) (fun h14 => ?_) (fun h14 => by exact absurd h14 (by decide))
  refine ev_aload_n_0 (pc := 20) dX8_rate_20 ?_
  refine ev_callV0 (pc := 21) dX8_rate_21 ml_X8_157 (m_X8_asItIs σ) (by decide) ⟨_, rfl, rfl⟩ rfl (by decide) rfl (Nat.le_of_ble_eq_true rfl) ?_
  refine ev_aload_n_0 (pc := 24) dX8_rate_24 ?_
  refine ev_iload_n_2 (pc := 25) dX8_rate_25 ?_
  refine ev_callV1 (pc := 26) dX8_rate_26 ml_X8_144 (m_X8_mind b hb _ h.nwR) (by decide) ⟨_, rfl, rfl⟩ rfl (by decide) rfl (Nat.le_of_ble_eq_true rfl) ?_
  refine ev_istore_n_3 (pc := 29) dX8_rate_29 (by decide) ?_
  refine ev_iload_n_3 (pc := 30) dX8_rate_30 ?_
  refine ev_aload_n_0 (pc := 31) dX8_rate_31 ?_
  refine ev_getR (pc := 32) (r := 119) dX8_rate_32 fl_X8_13 (by decide) (by decide) (by decide) (by decide) ?_
  refine ev_iload_n_2 (pc := 35) dX8_rate_35 ?_
  refine ev_iaload' (pc := 36) (j := b) dX8_rate_36 (by decide) (by decide) (show vp_in _ 6 from (vp_in_nI (by omega) (by decide))) (nI_clamp (by omega)) ?_
  rw [hB]
  refine ev_iadd (pc := 37) dX8_rate_37 ?_
  refine ev_istore_4 (pc := 38) dX8_rate_38 (by decide) ?_
  refine ev_iload_n_3 (pc := 40) dX8_rate_40 ?_
  refine ev_aload_n_0 (pc := 41) dX8_rate_41 ?_
  refine ev_iload_n_2 (pc := 42) dX8_rate_42 ?_
  refine ev_callV1 (pc := 43) dX8_rate_43 ml_X8_141 (m_X8_mien b hb _ h.nwR) (by decide) ⟨_, rfl, rfl⟩ rfl (by decide) rfl (Nat.le_of_ble_eq_true rfl) ?_
  refine ev_isub (pc := 46) dX8_rate_46 ?_
  refine ev_istore_5 (pc := 47) dX8_rate_47 (by decide) ?_
  refine ev_iload_n_1 (pc := 49) dX8_rate_49 ?_
  refine ev_tableIn (pc := 50) (off := 98) (tgt := 148) dX8_rate_50 (by decide) (by decide) (by decide) (by decide) ?_
  refine ev_aload_n_0 (pc := 148) dX8_rate_148 ?_
  refine ev_dup (pc := 149) dX8_rate_149 rfl ?_
  refine ev_getL (pc := 150) dX8_rate_150 fl_X8_215 (by decide) (by decide) (by decide) ?_
  refine ev_ldc2 (pc := 153) dX8_rate_153 k_X8_227 ?_
  refine ev_ladd (pc := 156) dX8_rate_156 ?_
  refine ev_putL (pc := 157) dX8_rate_157 fl_X8_215 (by decide) (by decide) (by decide) (by decide) ?_
  refine ev_iload_n_3 (pc := 160) dX8_rate_160 ?_
  refine ev_aload_n_0 (pc := 161) dX8_rate_161 ?_
  refine ev_callV1 (pc := 162) dX8_rate_162 ml_X8_147 (m_X8_inPot _ (h.nwR.lng _)) (by decide) ⟨_, rfl, rfl⟩ rfl (by decide) rfl (Nat.le_of_ble_eq_true rfl) ?_
  refine ev_iadd (pc := 165) dX8_rate_165 ?_
  exact ev_ireturn (pc := 166) dX8_rate_166 rfl rfl (⟨rfl, rate_fin h hT, (mls_now σ).fr.tr frM_wrL⟩)
theorem m_X8_rate {S : Scr} {A : Abs} (k : Nat) (hk : k < 6) (b : Nat) (hb : b < aN A) (σ : Sto) (h : RM A σ) : Mt S yX8_rate cX8_rate 6 (some .int) 5 [.ref 117, .int (nI k), .int (nI b)] σ (PM (setR A (ratT A k)) σ (ratV A b k)) := by
  match k, hk with
  | 0, _ => exact m_X8_rate_0 b hb σ h
  | 1, _ => exact m_X8_rate_1 b hb σ h
  | 2, _ => exact m_X8_rate_2 b hb σ h
  | 3, _ => exact m_X8_rate_3 b hb σ h
  | 4, _ => exact m_X8_rate_4 b hb σ h
  | 5, _ => exact m_X8_rate_5 b hb σ h
theorem le5_lt6 {m : Int32} (h : m ≤ 5) : m < 6 := by
  rw [tI_le, show (5 : Int32).toInt = 5 from rfl] at h
  rw [tI_lt, show (6 : Int32).toInt = 6 from rfl]; omega
set_option maxRecDepth 100000 in
theorem m_X8_rate0 {S : Scr} {A : Abs} (k b : Int32) (hb : ¬ ((¬ k < 0 ∧ k < 6) ∧ okB A b)) (σ : Sto) (h : RM A σ) : Mt S yX8_rate cX8_rate 6 (some .int) 5 [.ref 117, .int k, .int b] σ (Is (some (.int (-1000000))) σ) := by
  refine mt_of (ls := [.ref 117, .int k, .int b, .null, .null, .null]) (by decide) rfl (Nat.le_of_ble_eq_true rfl) (by simp [Value.category]) ?_
  refine ev_iload_n_1 (pc := 0) dX8_rate_0 ?_
  refine ev_iconst (pc := 1) (v := 0) dX8_rate_1 (by decide) ?_
  refine ev_iconst (pc := 2) (v := 5) dX8_rate_2 (by decide) ?_
  refine ev_callS1 (pc := 3) dX8_rate_3 ml_X8_54 (m_X8_in _ _ _ σ) rfl (by decide) rfl (Nat.le_of_ble_eq_true rfl) ?_
  refine ev_if_eq (pc := 6) (tgt := 17) dX8_rate_6 (by decide) (fun h6 => ?_) (fun h6 => ?_)
  · skip
    refine ev_ldc (pc := 17) dX8_rate_17 k_X8_160 ?_
    exact ev_ireturn (pc := 19) dX8_rate_19 rfl rfl (⟨rfl, rfl⟩)
  · skip
    refine ev_aload_n_0 (pc := 9) dX8_rate_9 ?_
    refine ev_iload_n_2 (pc := 10) dX8_rate_10 ?_
    refine ev_callV1 (pc := 11) dX8_rate_11 ml_X8_154 (m_X8_isBrother _ σ h) (by decide) ⟨_, rfl, rfl⟩ rfl (by decide) rfl (Nat.le_of_ble_eq_true rfl) ?_
    refine ev_if_ne (pc := 14) (tgt := 20) dX8_rate_14 (by decide) (fun h14 => ?_) (fun h14 => ?_)
    · skip
      exact absurd ⟨⟨Int32.not_lt.mpr (Decidable.not_not.mp (fun z => h6 (bI_f z))).1, le5_lt6 (Decidable.not_not.mp (fun z => h6 (bI_f z))).2⟩, Decidable.not_not.mp (fun z => h14 (bI_f z))⟩ hb
    · skip
      refine ev_ldc (pc := 17) dX8_rate_17 k_X8_160 ?_
      exact ev_ireturn (pc := 19) dX8_rate_19 rfl rfl (⟨rfl, rfl⟩)
