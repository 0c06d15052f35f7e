/-! ===== the reference: what was told is taken ===== -/
theorem cld_s (f : Nat → Int32) {k : Nat} (hk : k < 6) : cldD (fun b => if b < k + 1 then f b else 0) = cldD (fun b => if b < k then f b else 0) ||| f k <<< (nI k &&& 31) := by
  have z0 : (0 : Int32) <<< ((0 : Int32) &&& 31) = 0 := by decide
  have z1 : (0 : Int32) <<< ((1 : Int32) &&& 31) = 0 := by decide
  have z2 : (0 : Int32) <<< ((2 : Int32) &&& 31) = 0 := by decide
  have z3 : (0 : Int32) <<< ((3 : Int32) &&& 31) = 0 := by decide
  have z4 : (0 : Int32) <<< ((4 : Int32) &&& 31) = 0 := by decide
  have z5 : (0 : Int32) <<< ((5 : Int32) &&& 31) = 0 := by decide
  have o : ∀ x : Int32, x ||| 0 = x := fun x => Int32.or_zero
  unfold cldD
  rcases (show k = 0 ∨ k = 1 ∨ k = 2 ∨ k = 3 ∨ k = 4 ∨ k = 5 by omega) with rfl | rfl | rfl | rfl | rfl | rfl
  all_goals
    simp only [Nat.reduceLT, Nat.reduceAdd, if_true, if_false, Nat.lt_irrefl, Nat.zero_lt_one, Nat.not_lt_zero, z0, z1, z2, z3, z4, z5, o]
    rfl
/-- the first k brothers are taken -/
def stI (nb k : Nat) (σ τ : Sto) : Prop := τ.2 = σ.2 ∧ (∀ c, c ≠ 117 → c ≠ 118 → c ≠ 119 → c ≠ 120 → τ.1 c = σ.1 c) ∧ (∀ j, j ≠ 0 → τ.1 117 j = σ.1 117 j) ∧ τ.1 117 0 = nI nb ∧ (∀ b, b < k → (∀ p, p < 4 → τ.1 118 (4 * b + p) = σ.1 127 (6 * b + p)) ∧ τ.1 119 b = σ.1 127 (6 * b + 4) ∧ τ.1 120 (5 + b) = -9) ∧ τ.1 120 4 = cldD (fun b => if b < k then (if b < nb then σ.1 127 (6 * b + 5) else 0) else 0)
theorem stI.st {nb b : Nat} {σ τ : Sto} (h : stI nb b σ τ) (hb : b < 6) {v0 v1 v2 v3 v4 o x : Int32} (h0 : v0 = σ.1 127 (6 * b)) (h1 : v1 = σ.1 127 (6 * b + 1)) (h2 : v2 = σ.1 127 (6 * b + 2)) (h3 : v3 = σ.1 127 (6 * b + 3)) (h4 : v4 = σ.1 127 (6 * b + 4)) (ho : o = τ.1 120 4) (hx : x = (if b < nb then σ.1 127 (6 * b + 5) else 0) <<< (nI b &&& 31)) :
    stI nb (b + 1) σ (wr (wr (wr (wr (wr (wr (wr τ 118 (4 * b) v0) 118 (4 * b + 1) v1) 118 (4 * b + 2) v2) 118 (4 * b + 3) v3) 119 b v4) 120 4 (o ||| x)) 120 (5 + b) (-9)) := by
  subst h0 h1 h2 h3 h4 ho hx
  refine ⟨h.1, fun c c1 c2 c3 c4 => ?_, fun j hj => ?_, ?_, fun a ha => ⟨fun p hp => ?_, ?_, ?_⟩, ?_⟩
  · rw [wr_ne c4, wr_ne c4, wr_ne c3, wr_ne c2, wr_ne c2, wr_ne c2, wr_ne c2]; exact h.2.1 c c1 c2 c3 c4
  · rw [wr_ne (by decide), wr_ne (by decide), wr_ne (by decide), wr_ne (by decide), wr_ne (by decide), wr_ne (by decide), wr_ne (by decide)]; exact h.2.2.1 j hj
  · rw [wr_ne (by decide), wr_ne (by decide), wr_ne (by decide), wr_ne (by decide), wr_ne (by decide), wr_ne (by decide), wr_ne (by decide)]; exact h.2.2.2.1
  · rw [wr_ne (by decide), wr_ne (by decide), wr_ne (by decide)]
    rcases Nat.lt_or_ge a b with y | y
    · rw [wr_nj (by omega), wr_nj (by omega), wr_nj (by omega), wr_nj (by omega)]; exact (h.2.2.2.2.1 a y).1 p hp
    · obtain rfl : a = b := by omega
      rcases (show p = 0 ∨ p = 1 ∨ p = 2 ∨ p = 3 by omega) with rfl | rfl | rfl | rfl
      · rw [wr_nj (by omega), wr_nj (by omega), wr_nj (by omega)]; exact wr_at
      · rw [wr_nj (by omega), wr_nj (by omega)]; exact wr_at
      · rw [wr_nj (by omega)]; exact wr_at
      · exact wr_at
  · rw [wr_ne (by decide), wr_ne (by decide)]
    rcases Nat.lt_or_ge a b with y | y
    · rw [wr_nj (by omega), wr_ne (by decide), wr_ne (by decide), wr_ne (by decide), wr_ne (by decide)]; exact (h.2.2.2.2.1 a y).2.1
    · obtain rfl : a = b := by omega
      exact wr_at
  · rcases Nat.lt_or_ge a b with y | y
    · rw [wr_nj (by omega), wr_nj (by omega), wr_ne (by decide), wr_ne (by decide), wr_ne (by decide), wr_ne (by decide), wr_ne (by decide)]; exact (h.2.2.2.2.1 a y).2.2
    · obtain rfl : a = b := by omega
      exact wr_at
  · rw [wr_nj (by omega), wr_at, h.2.2.2.2.2]
    exact (cld_s (fun b => if b < nb then σ.1 127 (6 * b + 5) else 0) hb).symm
set_option maxRecDepth 100000 in
theorem b_X8_settles {S : Scr} (nb b : Nat) (hnb : nb ≤ 6) (hb : b < 6) (y : Value) (σ τ : Sto) {Q : Option Value → Sto → Prop} (hI : stI nb b σ τ) (K : ∀ τ2 y2, stI nb (b + 1) σ τ2 → Ev S RX8 cX8_settles 3 none 0 17 [.ref 117, .int (nI (b + 1)), y2] [] τ2 (Q)) : Ev S RX8 cX8_settles 3 none 0 17 [.ref 117, .int (nI b), y] [] τ (Q) := by
  have h7 : τ.1 127 = σ.1 127 := hI.2.1 127 (by decide) (by decide) (by decide) (by decide)
  refine ev_iload_n_1 (pc := 17) dX8_settles_17 ?_
  refine ev_bipush (pc := 18) (v := 6) dX8_settles_18 (by decide) ?_
  refine ev_icmp_ge (pc := 20) (tgt := 124) dX8_settles_20 (by decide) (fun h20 => by exact absurd h20 (nI_ge (a := b) (b := 6) (by omega) (by decide))) (fun h20 => ?_)
  refine ev_iconst (pc := 23) (v := 0) dX8_settles_23 (by decide) ?_
  refine ev_istore_n_2 (pc := 24) dX8_settles_24 (by decide) ?_
  refine ev_iload_n_2 (pc := 25) dX8_settles_25 ?_
  refine ev_iconst (pc := 26) (v := 4) dX8_settles_26 (by decide) ?_
  refine ev_icmp_ge (pc := 27) (tgt := 57) dX8_settles_27 (by decide) (fun h27 => by exact absurd h27 (by decide)) (fun h27 => ?_)
  refine ev_aload_n_0 (pc := 30) dX8_settles_30 ?_
  refine ev_getR (pc := 31) (r := 118) dX8_settles_31 fl_X8_7 (by decide) (by decide) (by decide) (by decide) ?_
  refine ev_iconst (pc := 34) (v := 4) dX8_settles_34 (by decide) ?_
  refine ev_iload_n_1 (pc := 35) dX8_settles_35 ?_
  refine ev_imulc (pc := 36) (v := nI (4 * b)) dX8_settles_36 (nI_mul 4 b) ?_
  refine ev_iload_n_2 (pc := 37) dX8_settles_37 ?_
  refine ev_iaddc (pc := 38) (v := nI (4 * b)) dX8_settles_38 (nI_addz (4 * b)) ?_
  refine ev_aload_n_0 (pc := 39) dX8_settles_39 ?_
  refine ev_getR (pc := 40) (r := 127) dX8_settles_40 fl_X8_38 (by decide) (by decide) (by decide) (by decide) ?_
  refine ev_bipush (pc := 43) (v := 6) dX8_settles_43 (by decide) ?_
  refine ev_iload_n_1 (pc := 45) dX8_settles_45 ?_
  refine ev_imulc (pc := 46) (v := nI (6 * b)) dX8_settles_46 (nI_mul 6 b) ?_
  refine ev_iload_n_2 (pc := 47) dX8_settles_47 ?_
  refine ev_iaddc (pc := 48) (v := nI (6 * b)) dX8_settles_48 (nI_addz (6 * b)) ?_
  refine ev_iaload' (pc := 49) (j := (6 * b)) dX8_settles_49 (by decide) (by decide) (show vp_in _ 36 from (vp_in_nI (by omega) (by decide))) (nI_clamp (by omega)) ?_
  refine ev_iastore' (pc := 50) (j := (4 * b)) dX8_settles_50 (by decide) (by decide) (show vp_in _ 24 from (vp_in_nI (by omega) (by decide))) (nI_clamp (by omega)) ?_
  refine ev_iinc_2 (pc := 51) (v := 1) dX8_settles_51 (by decide) (by decide) ?_
  refine ev_goto (pc := 54) (tgt := 25) dX8_settles_54 (by decide) ?_
  refine ev_iload_n_2 (pc := 25) dX8_settles_25 ?_
  refine ev_iconst (pc := 26) (v := 4) dX8_settles_26 (by decide) ?_
  refine ev_icmp_ge (pc := 27) (tgt := 57) dX8_settles_27 (by decide) (fun h27 => by exact absurd h27 (by decide)) (fun h27 => ?_)
  refine ev_aload_n_0 (pc := 30) dX8_settles_30 ?_
  refine ev_getR (pc := 31) (r := 118) dX8_settles_31 fl_X8_7 (by decide) (by decide) (by decide) (by decide) ?_
  refine ev_iconst (pc := 34) (v := 4) dX8_settles_34 (by decide) ?_
  refine ev_iload_n_1 (pc := 35) dX8_settles_35 ?_
  refine ev_imulc (pc := 36) (v := nI (4 * b)) dX8_settles_36 (nI_mul 4 b) ?_
  refine ev_iload_n_2 (pc := 37) dX8_settles_37 ?_
  refine ev_iaddc (pc := 38) (v := nI ((4 * b) + 1)) dX8_settles_38 (nI_add (4 * b) 1) ?_
  refine ev_aload_n_0 (pc := 39) dX8_settles_39 ?_
  refine ev_getR (pc := 40) (r := 127) dX8_settles_40 fl_X8_38 (by decide) (by decide) (by decide) (by decide) ?_
  refine ev_bipush (pc := 43) (v := 6) dX8_settles_43 (by decide) ?_
  refine ev_iload_n_1 (pc := 45) dX8_settles_45 ?_
  refine ev_imulc (pc := 46) (v := nI (6 * b)) dX8_settles_46 (nI_mul 6 b) ?_
  refine ev_iload_n_2 (pc := 47) dX8_settles_47 ?_
  refine ev_iaddc (pc := 48) (v := nI ((6 * b) + 1)) dX8_settles_48 (nI_add (6 * b) 1) ?_
  refine ev_iaload' (pc := 49) (j := ((6 * b) + 1)) dX8_settles_49 (by decide) (by decide) (show vp_in _ 36 from (vp_in_nI (by omega) (by decide))) (nI_clamp (by omega)) ?_
  refine ev_iastore' (pc := 50) (j := ((4 * b) + 1)) dX8_settles_50 (by decide) (by decide) (show vp_in _ 24 from (vp_in_nI (by omega) (by decide))) (nI_clamp (by omega)) ?_
  refine ev_iinc_2 (pc := 51) (v := 2) dX8_settles_51 (by decide) (by decide) ?_
  refine ev_goto (pc := 54) (tgt := 25) dX8_settles_54 (by decide) ?_
  refine ev_iload_n_2 (pc := 25) dX8_settles_25 ?_
  refine ev_iconst (pc := 26) (v := 4) dX8_settles_26 (by decide) ?_
  refine ev_icmp_ge (pc := 27) (tgt := 57) dX8_settles_27 (by decide) (fun h27 => by exact absurd h27 (by decide)) (fun h27 => ?_)
  refine ev_aload_n_0 (pc := 30) dX8_settles_30 ?_
  refine ev_getR (pc := 31) (r := 118) dX8_settles_31 fl_X8_7 (by decide) (by decide) (by decide) (by decide) ?_
  refine ev_iconst (pc := 34) (v := 4) dX8_settles_34 (by decide) ?_
  refine ev_iload_n_1 (pc := 35) dX8_settles_35 ?_
  refine ev_imulc (pc := 36) (v := nI (4 * b)) dX8_settles_36 (nI_mul 4 b) ?_
  refine ev_iload_n_2 (pc := 37) dX8_settles_37 ?_
  refine ev_iaddc (pc := 38) (v := nI ((4 * b) + 2)) dX8_settles_38 (nI_add (4 * b) 2) ?_
  refine ev_aload_n_0 (pc := 39) dX8_settles_39 ?_
  refine ev_getR (pc := 40) (r := 127) dX8_settles_40 fl_X8_38 (by decide) (by decide) (by decide) (by decide) ?_
  refine ev_bipush (pc := 43) (v := 6) dX8_settles_43 (by decide) ?_
  refine ev_iload_n_1 (pc := 45) dX8_settles_45 ?_
  refine ev_imulc (pc := 46) (v := nI (6 * b)) dX8_settles_46 (nI_mul 6 b) ?_
  refine ev_iload_n_2 (pc := 47) dX8_settles_47 ?_
  refine ev_iaddc (pc := 48) (v := nI ((6 * b) + 2)) dX8_settles_48 (nI_add (6 * b) 2) ?_
  refine ev_iaload' (pc := 49) (j := ((6 * b) + 2)) dX8_settles_49 (by decide) (by decide) (show vp_in _ 36 from (vp_in_nI (by omega) (by decide))) (nI_clamp (by omega)) ?_
  refine ev_iastore' (pc := 50) (j := ((4 * b) + 2)) dX8_settles_50 (by decide) (by decide) (show vp_in _ 24 from (vp_in_nI (by omega) (by decide))) (nI_clamp (by omega)) ?_
  refine ev_iinc_2 (pc := 51) (v := 3) dX8_settles_51 (by decide) (by decide) ?_
  refine ev_goto (pc := 54) (tgt := 25) dX8_settles_54 (by decide) ?_
  refine ev_iload_n_2 (pc := 25) dX8_settles_25 ?_
  refine ev_iconst (pc := 26) (v := 4) dX8_settles_26 (by decide) ?_
  refine ev_icmp_ge (pc := 27) (tgt := 57) dX8_settles_27 (by decide) (fun h27 => by exact absurd h27 (by decide)) (fun h27 => ?_)
  refine ev_aload_n_0 (pc := 30) dX8_settles_30 ?_
  refine ev_getR (pc := 31) (r := 118) dX8_settles_31 fl_X8_7 (by decide) (by decide) (by decide) (by decide) ?_
  refine ev_iconst (pc := 34) (v := 4) dX8_settles_34 (by decide) ?_
  refine ev_iload_n_1 (pc := 35) dX8_settles_35 ?_
  refine ev_imulc (pc := 36) (v := nI (4 * b)) dX8_settles_36 (nI_mul 4 b) ?_
  refine ev_iload_n_2 (pc := 37) dX8_settles_37 ?_
  refine ev_iaddc (pc := 38) (v := nI ((4 * b) + 3)) dX8_settles_38 (nI_add (4 * b) 3) ?_
  refine ev_aload_n_0 (pc := 39) dX8_settles_39 ?_
  refine ev_getR (pc := 40) (r := 127) dX8_settles_40 fl_X8_38 (by decide) (by decide) (by decide) (by decide) ?_
  refine ev_bipush (pc := 43) (v := 6) dX8_settles_43 (by decide) ?_
  refine ev_iload_n_1 (pc := 45) dX8_settles_45 ?_
  refine ev_imulc (pc := 46) (v := nI (6 * b)) dX8_settles_46 (nI_mul 6 b) ?_
  refine ev_iload_n_2 (pc := 47) dX8_settles_47 ?_
  refine ev_iaddc (pc := 48) (v := nI ((6 * b) + 3)) dX8_settles_48 (nI_add (6 * b) 3) ?_
  refine ev_iaload' (pc := 49) (j := ((6 * b) + 3)) dX8_settles_49 (by decide) (by decide) (show vp_in _ 36 from (vp_in_nI (by omega) (by decide))) (nI_clamp (by omega)) ?_
  refine ev_iastore' (pc := 50) (j := ((4 * b) + 3)) dX8_settles_50 (by decide) (by decide) (show vp_in _ 24 from (vp_in_nI (by omega) (by decide))) (nI_clamp (by omega)) ?_
  refine ev_iinc_2 (pc := 51) (v := 4) dX8_settles_51 (by decide) (by decide) ?_
  refine ev_goto (pc := 54) (tgt := 25) dX8_settles_54 (by decide) ?_
  refine ev_iload_n_2 (pc := 25) dX8_settles_25 ?_
  refine ev_iconst (pc := 26) (v := 4) dX8_settles_26 (by decide) ?_
  refine ev_icmp_ge (pc := 27) (tgt := 57) dX8_settles_27 (by decide) (fun h27 => ?_) (fun h27 => by exact absurd h27 (by decide))
  refine ev_aload_n_0 (pc := 57) dX8_settles_57 ?_
  refine ev_getR (pc := 58) (r := 119) dX8_settles_58 fl_X8_13 (by decide) (by decide) (by decide) (by decide) ?_
  refine ev_iload_n_1 (pc := 61) dX8_settles_61 ?_
  refine ev_aload_n_0 (pc := 62) dX8_settles_62 ?_
  refine ev_getR (pc := 63) (r := 127) dX8_settles_63 fl_X8_38 (by decide) (by decide) (by decide) (by decide) ?_
  refine ev_bipush (pc := 66) (v := 6) dX8_settles_66 (by decide) ?_
  refine ev_iload_n_1 (pc := 68) dX8_settles_68 ?_
  refine ev_imulc (pc := 69) (v := nI (6 * b)) dX8_settles_69 (nI_mul 6 b) ?_
  refine ev_iconst (pc := 70) (v := 4) dX8_settles_70 (by decide) ?_
  refine ev_iaddc (pc := 71) (v := nI ((6 * b) + 4)) dX8_settles_71 (nI_add (6 * b) 4) ?_
  refine ev_iaload' (pc := 72) (j := ((6 * b) + 4)) dX8_settles_72 (by decide) (by decide) (show vp_in _ 36 from (vp_in_nI (by omega) (by decide))) (nI_clamp (by omega)) ?_
  refine ev_iastore' (pc := 73) (j := b) dX8_settles_73 (by decide) (by decide) (show vp_in _ 6 from (vp_in_nI (by omega) (by decide))) (nI_clamp (by omega)) ?_
  refine ev_aload_n_0 (pc := 74) dX8_settles_74 ?_
  refine ev_getR (pc := 75) (r := 120) dX8_settles_75 fl_X8_16 (by decide) (by decide) (by decide) (by decide) ?_
  refine ev_iconst (pc := 78) (v := 4) dX8_settles_78 (by decide) ?_
  refine ev_dup2 (pc := 79) dX8_settles_79 rfl rfl ?_
  refine ev_iaload' (pc := 80) (j := 4) dX8_settles_80 (by decide) (by decide) (show vp_in _ 11 from (vin_c (by decide))) (by decide) ?_
  refine ev_iload_n_1 (pc := 81) dX8_settles_81 ?_
  refine ev_aload_n_0 (pc := 82) dX8_settles_82 ?_
  refine ev_getI (pc := 83) dX8_settles_83 fl_X8_50 (by decide) (by decide) (by decide) ?_
  rw [wr_ne (by decide), wr_ne (by decide), wr_ne (by decide), wr_ne (by decide), wr_ne (by decide), hI.2.2.2.1]
  refine ev_icmp_ge (pc := 86) (tgt := 105) dX8_settles_86 (by decide) (fun h86 => ?_) (fun h86 => ?_)
  · skip
    refine ev_iconst (pc := 105) (v := 0) dX8_settles_105 (by decide) ?_
    refine ev_ior (pc := 106) dX8_settles_106 ?_
    refine ev_iastore' (pc := 107) (j := 4) dX8_settles_107 (by decide) (by decide) (show vp_in _ 11 from (vin_c (by decide))) (by decide) ?_
    refine ev_aload_n_0 (pc := 108) dX8_settles_108 ?_
    refine ev_getR (pc := 109) (r := 120) dX8_settles_109 fl_X8_16 (by decide) (by decide) (by decide) (by decide) ?_
    refine ev_iconst (pc := 112) (v := 5) dX8_settles_112 (by decide) ?_
    refine ev_iload_n_1 (pc := 113) dX8_settles_113 ?_
    refine ev_iaddc (pc := 114) (v := nI (5 + b)) dX8_settles_114 (nI_add 5 b) ?_
    refine ev_bipush (pc := 115) (v := (-9)) dX8_settles_115 (by decide) ?_
    refine ev_iastore' (pc := 117) (j := (5 + b)) dX8_settles_117 (by decide) (by decide) (show vp_in _ 11 from (vp_in_nI (by omega) (by decide))) (nI_clamp (by omega)) ?_
    refine ev_iinc_1 (pc := 118) (v := nI (b + 1)) dX8_settles_118 (nI_inc b) (by decide) ?_
    refine ev_goto (pc := 121) (tgt := 17) dX8_settles_121 (by decide) ?_
    exact K _ _ (hI.st hb (by rw [h7]) (by rw [wr_ne (by decide), h7]) (by rw [wr_ne (by decide), wr_ne (by decide), h7]) (by rw [wr_ne (by decide), wr_ne (by decide), wr_ne (by decide), h7]) (by rw [wr_ne (by decide), wr_ne (by decide), wr_ne (by decide), wr_ne (by decide), h7]) (by rw [wr_ne (by decide), wr_ne (by decide), wr_ne (by decide), wr_ne (by decide), wr_ne (by decide)]) (by have := ge120 (n := nb) (by omega) h86; rw [if_neg (by omega)]; exact (by decide +kernel : ∀ b, b < 6 → (0 : Int32) = 0 <<< (nI b &&& 31)) b hb))
  · skip
    refine ev_aload_n_0 (pc := 89) dX8_settles_89 ?_
    refine ev_getR (pc := 90) (r := 127) dX8_settles_90 fl_X8_38 (by decide) (by decide) (by decide) (by decide) ?_
    refine ev_bipush (pc := 93) (v := 6) dX8_settles_93 (by decide) ?_
    refine ev_iload_n_1 (pc := 95) dX8_settles_95 ?_
    refine ev_imulc (pc := 96) (v := nI (6 * b)) dX8_settles_96 (nI_mul 6 b) ?_
    refine ev_iconst (pc := 97) (v := 5) dX8_settles_97 (by decide) ?_
    refine ev_iaddc (pc := 98) (v := nI ((6 * b) + 5)) dX8_settles_98 (nI_add (6 * b) 5) ?_
    refine ev_iaload' (pc := 99) (j := ((6 * b) + 5)) dX8_settles_99 (by decide) (by decide) (show vp_in _ 36 from (vp_in_nI (by omega) (by decide))) (nI_clamp (by omega)) ?_
    refine ev_iload_n_1 (pc := 100) dX8_settles_100 ?_
    refine ev_ishl (pc := 101) dX8_settles_101 ?_
    refine ev_goto (pc := 102) (tgt := 106) dX8_settles_102 (by decide) ?_
    refine ev_ior (pc := 106) dX8_settles_106 ?_
    refine ev_iastore' (pc := 107) (j := 4) dX8_settles_107 (by decide) (by decide) (show vp_in _ 11 from (vin_c (by decide))) (by decide) ?_
    refine ev_aload_n_0 (pc := 108) dX8_settles_108 ?_
    refine ev_getR (pc := 109) (r := 120) dX8_settles_109 fl_X8_16 (by decide) (by decide) (by decide) (by decide) ?_
    refine ev_iconst (pc := 112) (v := 5) dX8_settles_112 (by decide) ?_
    refine ev_iload_n_1 (pc := 113) dX8_settles_113 ?_
    refine ev_iaddc (pc := 114) (v := nI (5 + b)) dX8_settles_114 (nI_add 5 b) ?_
    refine ev_bipush (pc := 115) (v := (-9)) dX8_settles_115 (by decide) ?_
    refine ev_iastore' (pc := 117) (j := (5 + b)) dX8_settles_117 (by decide) (by decide) (show vp_in _ 11 from (vp_in_nI (by omega) (by decide))) (nI_clamp (by omega)) ?_
    refine ev_iinc_1 (pc := 118) (v := nI (b + 1)) dX8_settles_118 (nI_inc b) (by decide) ?_
    refine ev_goto (pc := 121) (tgt := 17) dX8_settles_121 (by decide) ?_
    exact K _ _ (hI.st hb (by rw [h7]) (by rw [wr_ne (by decide), h7]) (by rw [wr_ne (by decide), wr_ne (by decide), h7]) (by rw [wr_ne (by decide), wr_ne (by decide), wr_ne (by decide), h7]) (by rw [wr_ne (by decide), wr_ne (by decide), wr_ne (by decide), wr_ne (by decide), h7]) (by rw [wr_ne (by decide), wr_ne (by decide), wr_ne (by decide), wr_ne (by decide), wr_ne (by decide)]) (by have := lt120 (n := nb) (by omega) h86 (by omega); rw [if_pos this, wr_ne (by decide), wr_ne (by decide), wr_ne (by decide), wr_ne (by decide), wr_ne (by decide), h7]))
/-- all is taken: σ before, τ behind -/
def stP (nb : Nat) (σ τ : Sto) : Prop := τ.2 = σ.2 ∧ (∀ c, c < 117 → τ.1 c = σ.1 c) ∧ τ.1 117 19 = σ.1 117 19 ∧ τ.1 117 0 = nI nb ∧ (∀ b, b < 6 → (∀ p, p < 4 → τ.1 118 (4 * b + p) = σ.1 127 (6 * b + p)) ∧ τ.1 119 b = σ.1 127 (6 * b + 4) ∧ τ.1 120 (5 + b) = -9) ∧ τ.1 120 4 = cldD (fun b => if b < nb then σ.1 127 (6 * b + 5) else 0) ∧ (∀ p, p < 4 → τ.1 120 p = σ.1 128 p) ∧ τ.1 117 5 = 0 ∧ τ.1 117 8 = 0 ∧ τ.1 123 0 = 0 ∧ τ.1 123 1 = 0 ∧ τ.1 117 13 = 0
theorem stI.fin {nb : Nat} {σ τ : Sto} (h : stI nb 6 σ τ) {v0 v1 v2 v3 : Int32} (h0 : v0 = σ.1 128 0) (h1 : v1 = σ.1 128 1) (h2 : v2 = σ.1 128 2) (h3 : v3 = σ.1 128 3) :
    stP nb σ (wr (wr (wr (wr (wr (wr (wr (wr (wr τ 120 0 v0) 120 1 v1) 120 2 v2) 120 3 v3) 117 5 0) 117 8 0) 123 0 0) 123 1 0) 117 13 0) := by
  subst h0 h1 h2 h3
  have ne : ∀ c, c ≠ 117 → c ≠ 120 → c ≠ 123 → (wr (wr (wr (wr (wr (wr (wr (wr (wr τ 120 0 (σ.1 128 0)) 120 1 (σ.1 128 1)) 120 2 (σ.1 128 2)) 120 3 (σ.1 128 3)) 117 5 0) 117 8 0) 123 0 0) 123 1 0) 117 13 0).1 c = τ.1 c := fun c c1 c2 c3 => by
    rw [wr_ne c1, wr_ne c3, wr_ne c3, wr_ne c1, wr_ne c1, wr_ne c2, wr_ne c2, wr_ne c2, wr_ne c2]
  have nj : ∀ j, j ≠ 5 → j ≠ 8 → j ≠ 13 → (wr (wr (wr (wr (wr (wr (wr (wr (wr τ 120 0 (σ.1 128 0)) 120 1 (σ.1 128 1)) 120 2 (σ.1 128 2)) 120 3 (σ.1 128 3)) 117 5 0) 117 8 0) 123 0 0) 123 1 0) 117 13 0).1 117 j = τ.1 117 j := fun j j1 j2 j3 => by
    rw [wr_nj j3, wr_ne (by decide), wr_ne (by decide), wr_nj j2, wr_nj j1, wr_ne (by decide), wr_ne (by decide), wr_ne (by decide), wr_ne (by decide)]
  have n2 : ∀ j, 4 ≤ j → (wr (wr (wr (wr (wr (wr (wr (wr (wr τ 120 0 (σ.1 128 0)) 120 1 (σ.1 128 1)) 120 2 (σ.1 128 2)) 120 3 (σ.1 128 3)) 117 5 0) 117 8 0) 123 0 0) 123 1 0) 117 13 0).1 120 j = τ.1 120 j := fun j hj => by
    rw [wr_ne (by decide), wr_ne (by decide), wr_ne (by decide), wr_ne (by decide), wr_ne (by decide), wr_nj (by omega), wr_nj (by omega), wr_nj (by omega), wr_nj (by omega)]
  refine ⟨h.1, fun c hc => ?_, ?_, ?_, fun b hb => ⟨fun p hp => ?_, ?_, ?_⟩, ?_, fun p hp => ?_, ?_, ?_, ?_, ?_, wr_at⟩
  · rw [ne c (by omega) (by omega) (by omega)]; exact h.2.1 c (by omega) (by omega) (by omega) (by omega)
  · rw [nj 19 (by decide) (by decide) (by decide)]; exact h.2.2.1 19 (by decide)
  · rw [nj 0 (by decide) (by decide) (by decide)]; exact h.2.2.2.1
  · rw [ne 118 (by decide) (by decide) (by decide)]; exact (h.2.2.2.2.1 b hb).1 p hp
  · rw [ne 119 (by decide) (by decide) (by decide)]; exact (h.2.2.2.2.1 b hb).2.1
  · rw [n2 _ (by omega)]; exact (h.2.2.2.2.1 b hb).2.2
  · rw [n2 _ (by omega), h.2.2.2.2.2]
    exact cldD_congr (fun b hb => if_pos hb)
  · rw [wr_ne (by decide), wr_ne (by decide), wr_ne (by decide), wr_ne (by decide), wr_ne (by decide)]
    rcases (show p = 0 ∨ p = 1 ∨ p = 2 ∨ p = 3 by omega) with rfl | rfl | rfl | rfl
    · rw [wr_nj (by decide), wr_nj (by decide), wr_nj (by decide)]; exact wr_at
    · rw [wr_nj (by decide), wr_nj (by decide)]; exact wr_at
    · rw [wr_nj (by decide)]; exact wr_at
    · exact wr_at
  · rw [wr_nj (by decide), wr_ne (by decide), wr_ne (by decide), wr_nj (by decide)]; exact wr_at
  · rw [wr_nj (by decide), wr_ne (by decide), wr_ne (by decide)]; exact wr_at
  · rw [wr_ne (by decide), wr_nj (by decide)]; exact wr_at
  · rw [wr_ne (by decide)]; exact wr_at
set_option maxRecDepth 100000 in
theorem e_X8_settles {S : Scr} (nb : Nat) (y : Value) (σ τ : Sto) (hI : stI nb 6 σ τ) : Ev S RX8 cX8_settles 3 none 0 17 [.ref 117, .int 6, y] [] τ (fun r ρ => r = none ∧ stP nb σ ρ) := by
  have h8 : τ.1 128 = σ.1 128 := hI.2.1 128 (by decide) (by decide) (by decide) (by decide)
  refine ev_iload_n_1 (pc := 17) dX8_settles_17 ?_
  refine ev_bipush (pc := 18) (v := 6) dX8_settles_18 (by decide) ?_
  refine ev_icmp_ge (pc := 20) (tgt := 124) dX8_settles_20 (by decide) (fun h20 => ?_) (fun h20 => by exact absurd h20 (by decide))
  refine ev_iconst (pc := 124) (v := 0) dX8_settles_124 (by decide) ?_
  refine ev_istore_n_1 (pc := 125) dX8_settles_125 (by decide) ?_
  refine ev_iload_n_1 (pc := 126) dX8_settles_126 ?_
  refine ev_iconst (pc := 127) (v := 4) dX8_settles_127 (by decide) ?_
  refine ev_icmp_ge (pc := 128) (tgt := 151) dX8_settles_128 (by decide) (fun h128 => by exact absurd h128 (by decide)) (fun h128 => ?_)
  refine ev_aload_n_0 (pc := 131) dX8_settles_131 ?_
  refine ev_getR (pc := 132) (r := 120) dX8_settles_132 fl_X8_16 (by decide) (by decide) (by decide) (by decide) ?_
  refine ev_iconst (pc := 135) (v := 0) dX8_settles_135 (by decide) ?_
  refine ev_iload_n_1 (pc := 136) dX8_settles_136 ?_
  refine ev_iaddc (pc := 137) (v := 0) dX8_settles_137 (by decide) ?_
  refine ev_aload_n_0 (pc := 138) dX8_settles_138 ?_
  refine ev_getR (pc := 139) (r := 128) dX8_settles_139 fl_X8_41 (by decide) (by decide) (by decide) (by decide) ?_
  refine ev_iload_n_1 (pc := 142) dX8_settles_142 ?_
  refine ev_iaload' (pc := 143) (j := 0) dX8_settles_143 (by decide) (by decide) (show vp_in _ 4 from (vin_c (by decide))) (by decide) ?_
  refine ev_iastore' (pc := 144) (j := 0) dX8_settles_144 (by decide) (by decide) (show vp_in _ 11 from (vin_c (by decide))) (by decide) ?_
  refine ev_iinc_1 (pc := 145) (v := 1) dX8_settles_145 (by decide) (by decide) ?_
  refine ev_goto (pc := 148) (tgt := 126) dX8_settles_148 (by decide) ?_
  refine ev_iload_n_1 (pc := 126) dX8_settles_126 ?_
  refine ev_iconst (pc := 127) (v := 4) dX8_settles_127 (by decide) ?_
  refine ev_icmp_ge (pc := 128) (tgt := 151) dX8_settles_128 (by decide) (fun h128 => by exact absurd h128 (by decide)) (fun h128 => ?_)
  refine ev_aload_n_0 (pc := 131) dX8_settles_131 ?_
  refine ev_getR (pc := 132) (r := 120) dX8_settles_132 fl_X8_16 (by decide) (by decide) (by decide) (by decide) ?_
  refine ev_iconst (pc := 135) (v := 0) dX8_settles_135 (by decide) ?_
  refine ev_iload_n_1 (pc := 136) dX8_settles_136 ?_
  refine ev_iaddc (pc := 137) (v := 1) dX8_settles_137 (by decide) ?_
  refine ev_aload_n_0 (pc := 138) dX8_settles_138 ?_
  refine ev_getR (pc := 139) (r := 128) dX8_settles_139 fl_X8_41 (by decide) (by decide) (by decide) (by decide) ?_
  refine ev_iload_n_1 (pc := 142) dX8_settles_142 ?_
  refine ev_iaload' (pc := 143) (j := 1) dX8_settles_143 (by decide) (by decide) (show vp_in _ 4 from (vin_c (by decide))) (by decide) ?_
  refine ev_iastore' (pc := 144) (j := 1) dX8_settles_144 (by decide) (by decide) (show vp_in _ 11 from (vin_c (by decide))) (by decide) ?_
  refine ev_iinc_1 (pc := 145) (v := 2) dX8_settles_145 (by decide) (by decide) ?_
  refine ev_goto (pc := 148) (tgt := 126) dX8_settles_148 (by decide) ?_
  refine ev_iload_n_1 (pc := 126) dX8_settles_126 ?_
  refine ev_iconst (pc := 127) (v := 4) dX8_settles_127 (by decide) ?_
  refine ev_icmp_ge (pc := 128) (tgt := 151) dX8_settles_128 (by decide) (fun h128 => by exact absurd h128 (by decide)) (fun h128 => ?_)
  refine ev_aload_n_0 (pc := 131) dX8_settles_131 ?_
  refine ev_getR (pc := 132) (r := 120) dX8_settles_132 fl_X8_16 (by decide) (by decide) (by decide) (by decide) ?_
  refine ev_iconst (pc := 135) (v := 0) dX8_settles_135 (by decide) ?_
  refine ev_iload_n_1 (pc := 136) dX8_settles_136 ?_
  refine ev_iaddc (pc := 137) (v := 2) dX8_settles_137 (by decide) ?_
  refine ev_aload_n_0 (pc := 138) dX8_settles_138 ?_
  refine ev_getR (pc := 139) (r := 128) dX8_settles_139 fl_X8_41 (by decide) (by decide) (by decide) (by decide) ?_
  refine ev_iload_n_1 (pc := 142) dX8_settles_142 ?_
  refine ev_iaload' (pc := 143) (j := 2) dX8_settles_143 (by decide) (by decide) (show vp_in _ 4 from (vin_c (by decide))) (by decide) ?_
  refine ev_iastore' (pc := 144) (j := 2) dX8_settles_144 (by decide) (by decide) (show vp_in _ 11 from (vin_c (by decide))) (by decide) ?_
  refine ev_iinc_1 (pc := 145) (v := 3) dX8_settles_145 (by decide) (by decide) ?_
  refine ev_goto (pc := 148) (tgt := 126) dX8_settles_148 (by decide) ?_
  refine ev_iload_n_1 (pc := 126) dX8_settles_126 ?_
  refine ev_iconst (pc := 127) (v := 4) dX8_settles_127 (by decide) ?_
  refine ev_icmp_ge (pc := 128) (tgt := 151) dX8_settles_128 (by decide) (fun h128 => by exact absurd h128 (by decide)) (fun h128 => ?_)
  refine ev_aload_n_0 (pc := 131) dX8_settles_131 ?_
  refine ev_getR (pc := 132) (r := 120) dX8_settles_132 fl_X8_16 (by decide) (by decide) (by decide) (by decide) ?_
  refine ev_iconst (pc := 135) (v := 0) dX8_settles_135 (by decide) ?_
  refine ev_iload_n_1 (pc := 136) dX8_settles_136 ?_
  refine ev_iaddc (pc := 137) (v := 3) dX8_settles_137 (by decide) ?_
  refine ev_aload_n_0 (pc := 138) dX8_settles_138 ?_
  refine ev_getR (pc := 139) (r := 128) dX8_settles_139 fl_X8_41 (by decide) (by decide) (by decide) (by decide) ?_
  refine ev_iload_n_1 (pc := 142) dX8_settles_142 ?_
  refine ev_iaload' (pc := 143) (j := 3) dX8_settles_143 (by decide) (by decide) (show vp_in _ 4 from (vin_c (by decide))) (by decide) ?_
  refine ev_iastore' (pc := 144) (j := 3) dX8_settles_144 (by decide) (by decide) (show vp_in _ 11 from (vin_c (by decide))) (by decide) ?_
  refine ev_iinc_1 (pc := 145) (v := 4) dX8_settles_145 (by decide) (by decide) ?_
  refine ev_goto (pc := 148) (tgt := 126) dX8_settles_148 (by decide) ?_
  refine ev_iload_n_1 (pc := 126) dX8_settles_126 ?_
  refine ev_iconst (pc := 127) (v := 4) dX8_settles_127 (by decide) ?_
  refine ev_icmp_ge (pc := 128) (tgt := 151) dX8_settles_128 (by decide) (fun h128 => ?_) (fun h128 => by exact absurd h128 (by decide))
  refine ev_aload_n_0 (pc := 151) dX8_settles_151 ?_
  refine ev_iconst (pc := 152) (v := 0) dX8_settles_152 (by decide) ?_
  refine ev_putI (pc := 153) dX8_settles_153 fl_X8_113 (by decide) (by decide) (by decide) ?_
  refine ev_aload_n_0 (pc := 156) dX8_settles_156 ?_
  refine ev_iconst (pc := 157) (v := 0) dX8_settles_157 (by decide) ?_
  refine ev_putI (pc := 158) dX8_settles_158 fl_X8_116 (by decide) (by decide) (by decide) ?_
  refine ev_aload_n_0 (pc := 161) dX8_settles_161 ?_
  refine ev_getR (pc := 162) (r := 123) dX8_settles_162 fl_X8_25 (by decide) (by decide) (by decide) (by decide) ?_
  refine ev_iconst (pc := 165) (v := 0) dX8_settles_165 (by decide) ?_
  refine ev_iconst (pc := 166) (v := 0) dX8_settles_166 (by decide) ?_
  refine ev_bastore' (pc := 167) (j := 0) dX8_settles_167 (by decide) (by decide) (show vp_in _ 2 from (vin_c (by decide))) (by decide) (by decide) ?_
  refine ev_aload_n_0 (pc := 168) dX8_settles_168 ?_
  refine ev_getR (pc := 169) (r := 123) dX8_settles_169 fl_X8_25 (by decide) (by decide) (by decide) (by decide) ?_
  refine ev_iconst (pc := 172) (v := 1) dX8_settles_172 (by decide) ?_
  refine ev_iconst (pc := 173) (v := 0) dX8_settles_173 (by decide) ?_
  refine ev_bastore' (pc := 174) (j := 1) dX8_settles_174 (by decide) (by decide) (show vp_in _ 2 from (vin_c (by decide))) (by decide) (by decide) ?_
  refine ev_aload_n_0 (pc := 175) dX8_settles_175 ?_
  refine ev_iconst (pc := 176) (v := 0) dX8_settles_176 (by decide) ?_
  refine ev_putI (pc := 177) dX8_settles_177 fl_X8_58 (by decide) (by decide) (by decide) ?_
  exact ev_return (pc := 180) dX8_settles_180 rfl (⟨rfl, hI.fin (by rw [h8]) (by rw [wr_ne (by decide), h8]) (by rw [wr_ne (by decide), wr_ne (by decide), h8]) (by rw [wr_ne (by decide), wr_ne (by decide), wr_ne (by decide), h8])⟩)
theorem l_X8_settles {S : Scr} (nb : Nat) (hnb : nb ≤ 6) (σ : Sto) : ∀ k b, b + k = 6 → ∀ y τ, stI nb b σ τ → Ev S RX8 cX8_settles 3 none 0 17 [.ref 117, .int (nI b), y] [] τ (fun r ρ => r = none ∧ stP nb σ ρ) := by
  intro k
  induction k with
  | zero =>
    intro b hb y τ hI
    obtain rfl : b = 6 := by omega
    exact e_X8_settles nb y σ τ hI
  | succ k ih =>
    intro b hb y τ hI
    exact b_X8_settles nb b hnb (by omega) y σ τ hI (fun τ2 y2 h2 => ih (b + 1) (by omega) y2 τ2 h2)
set_option maxRecDepth 100000 in
theorem m_X8_settles {S : Scr} (nb : Nat) (hnb : nb ≤ 6) (σ : Sto) (hn : σ.1 117 20 = nI nb) : Mt S yX8_settles cX8_settles 3 none 0 [.ref 117] σ (fun r ρ => r = none ∧ stP nb σ ρ) := by
  refine mt_of (ls := [.ref 117, .null, .null]) (by decide) rfl (Nat.le_of_ble_eq_true rfl) (by simp [Value.category]) ?_
  refine ev_aload_n_0 (pc := 0) dX8_settles_0 ?_
  refine ev_aload_n_0 (pc := 1) dX8_settles_1 ?_
  refine ev_getI (pc := 2) dX8_settles_2 fl_X8_88 (by decide) (by decide) (by decide) ?_
  rw [hn]
  refine ev_putI (pc := 5) dX8_settles_5 fl_X8_50 (by decide) (by decide) (by decide) ?_
  refine ev_aload_n_0 (pc := 8) dX8_settles_8 ?_
  refine ev_getR (pc := 9) (r := 120) dX8_settles_9 fl_X8_16 (by decide) (by decide) (by decide) (by decide) ?_
  refine ev_iconst (pc := 12) (v := 4) dX8_settles_12 (by decide) ?_
  refine ev_iconst (pc := 13) (v := 0) dX8_settles_13 (by decide) ?_
  refine ev_iastore' (pc := 14) (j := 4) dX8_settles_14 (by decide) (by decide) (show vp_in _ 11 from (vin_c (by decide))) (by decide) ?_
  refine ev_iconst (pc := 15) (v := 0) dX8_settles_15 (by decide) ?_
  refine ev_istore_n_1 (pc := 16) dX8_settles_16 (by decide) ?_
  exact l_X8_settles nb hnb σ 6 0 rfl _ _ ⟨rfl, fun c c1 c2 c3 c4 => by rw [wr_ne c4, wr_ne c1], fun j hj => by rw [wr_ne (by decide), wr_nj hj], by rw [wr_ne (by decide), wr_at], fun b hb => absurd hb (Nat.not_lt_zero b), by rw [wr_at]; rw [cldD_congr (g := fun _ => 0) (fun b _ => if_neg (Nat.not_lt_zero b))]; decide⟩
theorem RM.kit {A : Abs} {σ ρ τ : Sto} (h : RM A σ) (g : Mls σ ρ) {nb : Nat} {L : Nat → Nat → Int32} {P : Nat → Int32} (hnb : nb ≤ 6) (hL : okL nb L) (hP : okPt P) (hr : ∀ b, b < nb → ∀ k, k < 6 → ρ.1 127 (6 * b + k) = L b k) (hp : ∀ k, k < 4 → ρ.1 128 k = P k) (hS : stP nb ρ τ) : RM (kitA A nb L P) τ ∧ FrM σ τ := by
  obtain ⟨s1, s2, s3, s4, s5, s6, s7, s8, s9, s10, s11, s12⟩ := hS
  refine ⟨⟨⟨hnb, fun b hb => ⟨fun p hp => ?_, ?_⟩, ⟨hP, fun b hb => ?_⟩, fun s hs => absurd hs List.not_mem_nil, (fun i s hs => nomatch hs), fun e he => absurd he List.not_mem_nil, Nat.zero_le _, Nat.zero_le _, Nat.zero_le _⟩, ⟨s4, fun b hb => ⟨fun p hp4 => ?_, ?_⟩⟩, ⟨fun p hp4 => ?_, ?_, fun b hb => ?_⟩, ⟨s8, fun i s hs => ?_⟩, fun i hi => ⟨(fun s hs => nomatch hs), fun _ => ?_⟩, ⟨s9, fun i e he => ?_⟩, ⟨s12, fun i hi => absurd hi (Nat.not_lt_zero i)⟩, ?_⟩, ?_⟩
  · obtain ⟨v, a, -, -, b'⟩ := hL b hb p (by omega)
    exact ⟨v, a, b'⟩
  · obtain ⟨v, -, a, -, b'⟩ := hL b hb 4 (by decide)
    exact ⟨v, a rfl, b'⟩
  · show (if b < nb then L b 5 else 0) = 0 ∨ (if b < nb then L b 5 else 0) = 1
    by_cases q : b < nb
    · rw [if_pos q]
      obtain ⟨v, -, -, a, b'⟩ := hL b q 5 (by decide)
      have := a rfl
      rw [b']
      rcases (show v = 0 ∨ v = 1 by omega) with rfl | rfl
      · exact Or.inl rfl
      · exact Or.inr rfl
    · rw [if_neg q]; exact Or.inl rfl
  · have hb' : b < nb := hb
    rw [(s5 b (by omega)).1 p hp4]; exact hr b hb' p (by omega)
  · have hb' : b < nb := hb
    rw [(s5 b (by omega)).2.1]; exact hr b hb' 4 (by decide)
  · rw [Nat.zero_add, s7 p hp4]; exact hp p hp4
  · rw [Nat.zero_add, s6]
    refine cldD_congr (fun b hb => ?_)
    show _ = if b < nb then L b 5 else 0
    by_cases q : b < nb
    · rw [if_pos q, if_pos q]; exact hr b q 5 (by decide)
    · rw [if_neg q, if_neg q]
  · have hb' : b < nb := hb
    rw [Nat.zero_add]; exact (s5 b (by omega)).2.2
  · have hs2 : ([] : List Scn)[i]? = some s := hs
    simp at hs2
  · rcases (show i = 0 ∨ i = 1 by omega) with rfl | rfl
    · exact s10
    · exact s11
  · have he2 : ([] : List ((Nat → Int32) × Int32))[i]? = some e := he
    simp at he2
  · rw [s1, g.1]; exact h.2.2.2.2.2.2.2
  · exact FrM.of (fun c hc => (s2 c hc).trans (g.2.1 c hc)) (s1.trans g.1)
