/-! ===== odds ===== -/
def rowSet (σ : Sto) (a : Nat) (w : Nat → Int32) : Sto := (fun k j => if k = a then w j else σ.1 k j, σ.2)
theorem rowSet_ne {σ : Sto} {a k : Nat} {w : Nat → Int32} (h : k ≠ a) : (rowSet σ a w).1 k = σ.1 k := by funext j; unfold rowSet; simp [h]
theorem rowSet_at {σ : Sto} {a : Nat} {w : Nat → Int32} : (rowSet σ a w).1 a = w := by funext j; unfold rowSet; simp
abbrev calmC (l : Nat → Int32) (bl : Int32) (pot : Nat → Int32) (x : Int32) : Int32 := (if mienD l bl pot 1 = 0 then x else 0) + (if mienD l bl pot 0 = 0 then 10 - x else 0)
def cwStep (c : Int32) (b : Nat) (w : Nat → Int32) : Nat → Int32 := fun j => if j = 0 then w 0 * (10 - c) else if j ≤ b + 1 then w j * (10 - c) + w (j - 1) * c else w j
abbrev calmA (σ : Sto) (x : Int32) (b : Nat) : Int32 := calmC (σ.1 (25 + 2 * b + 1)) (σ.1 (25 + 2 * b) 1) (σ.1 40) x
def cwF (σ : Sto) (x : Int32) (n : Nat) : Nat → Int32 := itN (fun b w => cwStep (calmA σ x b) b w) n (fun j => if j = 0 then 1 else if j < 7 then 0 else σ.1 8 j)
set_option maxRecDepth 100000 in
theorem b1_X0_countWays {S : Scr} (n : Nat) (hn : n ≤ 6) (x : Int32) (b : Nat) (hb : b < n) (σ : Sto) (hm : σ.1 5 1 = nI n) {Q : Option Value → Sto → Prop} (K : Ev S RX0 cX0_countWays 6 none 2 73 [.ref 5, .ref 40, .int x, .int (nI b), .int (calmA σ x b), .null] [] σ (Q)) : Ev S RX0 cX0_countWays 6 none 2 17 [.ref 5, .ref 40, .int x, .int (nI b), .null, .null] [] σ (Q) := by
  have hb6 : b < 6 := by omega
  refine ev_iload_n_3 (pc := 17) dX0_countWays_17 ?_
  refine ev_aload_n_0 (pc := 18) dX0_countWays_18 ?_
  refine ev_getI (pc := 19) dX0_countWays_19 fl_X0_31 (by decide) (by decide) (by decide) ?_
  refine ev_icmp_ge (pc := 22) (tgt := 142) dX0_countWays_22 (by decide) (fun h22 => by exact absurd h22 (by rw [hm]; exact nI_ge hb (by omega))) (fun h22 => ?_)
  refine ev_aload_n_0 (pc := 25) dX0_countWays_25 ?_
  refine ev_getR (pc := 26) (r := 6) dX0_countWays_26 fl_X0_11 (by decide) (by decide) (by decide) (by decide) ?_
  refine ev_iload_n_3 (pc := 29) dX0_countWays_29 ?_
  refine ev_aaload' (pc := 30) (r := (25 + 2 * b)) (j := b) dX0_countWays_30 (by decide) (c := 14) (by decide) (by decide) (by decide) (show vp_in _ 6 from (vp_in_nI (by omega) (by decide))) (nI_clamp (by omega)) (rf6 b) ?_
  refine ev_aload_n_1 (pc := 31) dX0_countWays_31 ?_
  refine ev_iconst (pc := 32) (v := 1) dX0_countWays_32 (by decide) ?_
  refine ev_callV1 (pc := 33) dX0_countWays_33 ml_X0_55 (m_X5_mien (isTa_of hb6) ⟨by decide, by decide, by decide⟩ 1 σ) (isTa_of hb6).lt ⟨_, by rw [(isTa_of hb6).kd0]; rfl, rfl⟩ rfl (by decide) rfl (Nat.le_of_ble_eq_true rfl) ?_
  refine ev_if_ne (pc := 36) (tgt := 43) dX0_countWays_36 (by decide) (fun h36 => ?_) (fun h36 => ?_)
  · skip
    refine ev_iconst (pc := 43) (v := 0) dX0_countWays_43 (by decide) ?_
    refine ev_istore_4 (pc := 44) dX0_countWays_44 (by decide) ?_
    refine ev_iload_4 (pc := 46) dX0_countWays_46 ?_
    refine ev_aload_n_0 (pc := 48) dX0_countWays_48 ?_
    refine ev_getR (pc := 49) (r := 6) dX0_countWays_49 fl_X0_11 (by decide) (by decide) (by decide) (by decide) ?_
    refine ev_iload_n_3 (pc := 52) dX0_countWays_52 ?_
    refine ev_aaload' (pc := 53) (r := (25 + 2 * b)) (j := b) dX0_countWays_53 (by decide) (c := 14) (by decide) (by decide) (by decide) (show vp_in _ 6 from (vp_in_nI (by omega) (by decide))) (nI_clamp (by omega)) (rf6 b) ?_
    refine ev_aload_n_1 (pc := 54) dX0_countWays_54 ?_
    refine ev_iconst (pc := 55) (v := 0) dX0_countWays_55 (by decide) ?_
    refine ev_callV1 (pc := 56) dX0_countWays_56 ml_X0_55 (m_X5_mien (isTa_of hb6) ⟨by decide, by decide, by decide⟩ 0 σ) (isTa_of hb6).lt ⟨_, by rw [(isTa_of hb6).kd0]; rfl, rfl⟩ rfl (by decide) rfl (Nat.le_of_ble_eq_true rfl) ?_
    refine ev_if_ne (pc := 59) (tgt := 69) dX0_countWays_59 (by decide) (fun h59 => ?_) (fun h59 => ?_)
    · skip
      refine ev_iconst (pc := 69) (v := 0) dX0_countWays_69 (by decide) ?_
      refine ev_iaddc (pc := 70) (v := 0) dX0_countWays_70 (by decide) ?_
      refine ev_istore_4 (pc := 71) dX0_countWays_71 (by decide) ?_
      exact ev_eq (by simp only [calmA, calmC, h36, h59, ↓reduceIte]; try rfl) rfl rfl K
    · skip
      refine ev_bipush (pc := 62) (v := 10) dX0_countWays_62 (by decide) ?_
      refine ev_iload_n_2 (pc := 64) dX0_countWays_64 ?_
      refine ev_isub (pc := 65) dX0_countWays_65 ?_
      refine ev_goto (pc := 66) (tgt := 70) dX0_countWays_66 (by decide) ?_
      refine ev_iadd (pc := 70) dX0_countWays_70 ?_
      refine ev_istore_4 (pc := 71) dX0_countWays_71 (by decide) ?_
      exact ev_eq (by simp only [calmA, calmC, h36, h59, ↓reduceIte]; try rfl) rfl rfl K
  · skip
    refine ev_iload_n_2 (pc := 39) dX0_countWays_39 ?_
    refine ev_goto (pc := 40) (tgt := 44) dX0_countWays_40 (by decide) ?_
    refine ev_istore_4 (pc := 44) dX0_countWays_44 (by decide) ?_
    refine ev_iload_4 (pc := 46) dX0_countWays_46 ?_
    refine ev_aload_n_0 (pc := 48) dX0_countWays_48 ?_
    refine ev_getR (pc := 49) (r := 6) dX0_countWays_49 fl_X0_11 (by decide) (by decide) (by decide) (by decide) ?_
    refine ev_iload_n_3 (pc := 52) dX0_countWays_52 ?_
    refine ev_aaload' (pc := 53) (r := (25 + 2 * b)) (j := b) dX0_countWays_53 (by decide) (c := 14) (by decide) (by decide) (by decide) (show vp_in _ 6 from (vp_in_nI (by omega) (by decide))) (nI_clamp (by omega)) (rf6 b) ?_
    refine ev_aload_n_1 (pc := 54) dX0_countWays_54 ?_
    refine ev_iconst (pc := 55) (v := 0) dX0_countWays_55 (by decide) ?_
    refine ev_callV1 (pc := 56) dX0_countWays_56 ml_X0_55 (m_X5_mien (isTa_of hb6) ⟨by decide, by decide, by decide⟩ 0 σ) (isTa_of hb6).lt ⟨_, by rw [(isTa_of hb6).kd0]; rfl, rfl⟩ rfl (by decide) rfl (Nat.le_of_ble_eq_true rfl) ?_
    refine ev_if_ne (pc := 59) (tgt := 69) dX0_countWays_59 (by decide) (fun h59 => ?_) (fun h59 => ?_)
    · skip
      refine ev_iconst (pc := 69) (v := 0) dX0_countWays_69 (by decide) ?_
      refine ev_iadd (pc := 70) dX0_countWays_70 ?_
      refine ev_istore_4 (pc := 71) dX0_countWays_71 (by decide) ?_
      exact ev_eq (by simp only [calmA, calmC, h36, h59, ↓reduceIte]; try rfl) rfl rfl K
    · skip
      refine ev_bipush (pc := 62) (v := 10) dX0_countWays_62 (by decide) ?_
      refine ev_iload_n_2 (pc := 64) dX0_countWays_64 ?_
      refine ev_isub (pc := 65) dX0_countWays_65 ?_
      refine ev_goto (pc := 66) (tgt := 70) dX0_countWays_66 (by decide) ?_
      refine ev_iadd (pc := 70) dX0_countWays_70 ?_
      refine ev_istore_4 (pc := 71) dX0_countWays_71 (by decide) ?_
      exact ev_eq (by simp only [calmA, calmC, h36, h59, ↓reduceIte]; try rfl) rfl rfl K
set_option maxRecDepth 100000 in
theorem b2_X0_countWays_0 {S : Scr} (x c : Int32) (w : Nat → Int32) (σ : Sto) {Q : Option Value → Sto → Prop} (K : Ev S RX0 cX0_countWays 6 none 2 17 [.ref 5, .ref 40, .int x, .int (nI 1), .null, .null] [] (rowSet σ 8 (cwStep c 0 w)) (Q)) : Ev S RX0 cX0_countWays 6 none 2 73 [.ref 5, .ref 40, .int x, .int 0, .int c, .null] [] (rowSet σ 8 w) (Q) := by
  refine ev_iload_n_3 (pc := 73) dX0_countWays_73 ?_
  refine ev_iconst (pc := 74) (v := 1) dX0_countWays_74 (by decide) ?_
  refine ev_iaddc (pc := 75) (v := 1) dX0_countWays_75 (by decide) ?_
  refine ev_istore_5 (pc := 76) dX0_countWays_76 (by decide) ?_
  refine ev_iload_5 (pc := 78) dX0_countWays_78 ?_
  refine ev_if_le (pc := 80) (tgt := 122) dX0_countWays_80 (by decide) (fun h80 => by exact absurd h80 (by decide)) (fun h80 => ?_)
  refine ev_aload_n_0 (pc := 83) dX0_countWays_83 ?_
  refine ev_getR (pc := 84) (r := 8) dX0_countWays_84 fl_X0_21 (by decide) (by decide) (by decide) (by decide) ?_
  refine ev_iload_5 (pc := 87) dX0_countWays_87 ?_
  refine ev_aload_n_0 (pc := 89) dX0_countWays_89 ?_
  refine ev_getR (pc := 90) (r := 8) dX0_countWays_90 fl_X0_21 (by decide) (by decide) (by decide) (by decide) ?_
  refine ev_iload_5 (pc := 93) dX0_countWays_93 ?_
  refine ev_iaload' (pc := 95) (j := 1) dX0_countWays_95 (by decide) (by decide) (show vp_in _ 7 from (vin_c (by decide))) (by decide) ?_
  refine ev_bipush (pc := 96) (v := 10) dX0_countWays_96 (by decide) ?_
  refine ev_iload_4 (pc := 98) dX0_countWays_98 ?_
  refine ev_isub (pc := 100) dX0_countWays_100 ?_
  refine ev_imul (pc := 101) dX0_countWays_101 ?_
  refine ev_aload_n_0 (pc := 102) dX0_countWays_102 ?_
  refine ev_getR (pc := 103) (r := 8) dX0_countWays_103 fl_X0_21 (by decide) (by decide) (by decide) (by decide) ?_
  refine ev_iload_5 (pc := 106) dX0_countWays_106 ?_
  refine ev_iconst (pc := 108) (v := 1) dX0_countWays_108 (by decide) ?_
  refine ev_isubc (pc := 109) (v := 0) dX0_countWays_109 (by decide) ?_
  refine ev_iaload' (pc := 110) (j := 0) dX0_countWays_110 (by decide) (by decide) (show vp_in _ 7 from (vin_c (by decide))) (by decide) ?_
  refine ev_iload_4 (pc := 111) dX0_countWays_111 ?_
  refine ev_imul (pc := 113) dX0_countWays_113 ?_
  refine ev_iadd (pc := 114) dX0_countWays_114 ?_
  refine ev_iastore' (pc := 115) (j := 1) dX0_countWays_115 (by decide) (by decide) (show vp_in _ 7 from (vin_c (by decide))) (by decide) ?_
  refine ev_iinc_5 (pc := 116) (v := 0) dX0_countWays_116 (by decide) (by decide) ?_
  refine ev_goto (pc := 119) (tgt := 78) dX0_countWays_119 (by decide) ?_
  refine ev_iload_5 (pc := 78) dX0_countWays_78 ?_
  refine ev_if_le (pc := 80) (tgt := 122) dX0_countWays_80 (by decide) (fun h80 => ?_) (fun h80 => by exact absurd h80 (by decide))
  refine ev_aload_n_0 (pc := 122) dX0_countWays_122 ?_
  refine ev_getR (pc := 123) (r := 8) dX0_countWays_123 fl_X0_21 (by decide) (by decide) (by decide) (by decide) ?_
  refine ev_iconst (pc := 126) (v := 0) dX0_countWays_126 (by decide) ?_
  refine ev_dup2 (pc := 127) dX0_countWays_127 rfl rfl ?_
  refine ev_iaload' (pc := 128) (j := 0) dX0_countWays_128 (by decide) (by decide) (show vp_in _ 7 from (vin_c (by decide))) (by decide) ?_
  refine ev_bipush (pc := 129) (v := 10) dX0_countWays_129 (by decide) ?_
  refine ev_iload_4 (pc := 131) dX0_countWays_131 ?_
  refine ev_isub (pc := 133) dX0_countWays_133 ?_
  refine ev_imul (pc := 134) dX0_countWays_134 ?_
  refine ev_iastore' (pc := 135) (j := 0) dX0_countWays_135 (by decide) (by decide) (show vp_in _ 7 from (vin_c (by decide))) (by decide) ?_
  refine ev_iinc_3 (pc := 136) (v := 1) dX0_countWays_136 (by decide) (by decide) ?_
  refine ev_goto (pc := 139) (tgt := 17) dX0_countWays_139 (by decide) ?_
  refine ev_null_4 (ev_null_5 ?_)
  refine ev_eq rfl rfl ?_ K
  refine Prod.ext (funext fun k => funext fun j => ?_) rfl
  by_cases hk : k = 8
  · subst hk
    rcases j with _ | _ | _ | _ | _ | _ | _ | j <;> simp [wr, rowSet, cwStep]
  · simp [wr, rowSet, hk]
set_option maxRecDepth 100000 in
theorem b2_X0_countWays_1 {S : Scr} (x c : Int32) (w : Nat → Int32) (σ : Sto) {Q : Option Value → Sto → Prop} (K : Ev S RX0 cX0_countWays 6 none 2 17 [.ref 5, .ref 40, .int x, .int (nI 2), .null, .null] [] (rowSet σ 8 (cwStep c 1 w)) (Q)) : Ev S RX0 cX0_countWays 6 none 2 73 [.ref 5, .ref 40, .int x, .int 1, .int c, .null] [] (rowSet σ 8 w) (Q) := by
  refine ev_iload_n_3 (pc := 73) dX0_countWays_73 ?_
  refine ev_iconst (pc := 74) (v := 1) dX0_countWays_74 (by decide) ?_
  refine ev_iaddc (pc := 75) (v := 2) dX0_countWays_75 (by decide) ?_
  refine ev_istore_5 (pc := 76) dX0_countWays_76 (by decide) ?_
  refine ev_iload_5 (pc := 78) dX0_countWays_78 ?_
  refine ev_if_le (pc := 80) (tgt := 122) dX0_countWays_80 (by decide) (fun h80 => by exact absurd h80 (by decide)) (fun h80 => ?_)
  refine ev_aload_n_0 (pc := 83) dX0_countWays_83 ?_
  refine ev_getR (pc := 84) (r := 8) dX0_countWays_84 fl_X0_21 (by decide) (by decide) (by decide) (by decide) ?_
  refine ev_iload_5 (pc := 87) dX0_countWays_87 ?_
  refine ev_aload_n_0 (pc := 89) dX0_countWays_89 ?_
  refine ev_getR (pc := 90) (r := 8) dX0_countWays_90 fl_X0_21 (by decide) (by decide) (by decide) (by decide) ?_
  refine ev_iload_5 (pc := 93) dX0_countWays_93 ?_
  refine ev_iaload' (pc := 95) (j := 2) dX0_countWays_95 (by decide) (by decide) (show vp_in _ 7 from (vin_c (by decide))) (by decide) ?_
  refine ev_bipush (pc := 96) (v := 10) dX0_countWays_96 (by decide) ?_
  refine ev_iload_4 (pc := 98) dX0_countWays_98 ?_
  refine ev_isub (pc := 100) dX0_countWays_100 ?_
  refine ev_imul (pc := 101) dX0_countWays_101 ?_
  refine ev_aload_n_0 (pc := 102) dX0_countWays_102 ?_
  refine ev_getR (pc := 103) (r := 8) dX0_countWays_103 fl_X0_21 (by decide) (by decide) (by decide) (by decide) ?_
  refine ev_iload_5 (pc := 106) dX0_countWays_106 ?_
  refine ev_iconst (pc := 108) (v := 1) dX0_countWays_108 (by decide) ?_
  refine ev_isubc (pc := 109) (v := 1) dX0_countWays_109 (by decide) ?_
  refine ev_iaload' (pc := 110) (j := 1) dX0_countWays_110 (by decide) (by decide) (show vp_in _ 7 from (vin_c (by decide))) (by decide) ?_
  refine ev_iload_4 (pc := 111) dX0_countWays_111 ?_
  refine ev_imul (pc := 113) dX0_countWays_113 ?_
  refine ev_iadd (pc := 114) dX0_countWays_114 ?_
  refine ev_iastore' (pc := 115) (j := 2) dX0_countWays_115 (by decide) (by decide) (show vp_in _ 7 from (vin_c (by decide))) (by decide) ?_
  refine ev_iinc_5 (pc := 116) (v := 1) dX0_countWays_116 (by decide) (by decide) ?_
  refine ev_goto (pc := 119) (tgt := 78) dX0_countWays_119 (by decide) ?_
  refine ev_iload_5 (pc := 78) dX0_countWays_78 ?_
  refine ev_if_le (pc := 80) (tgt := 122) dX0_countWays_80 (by decide) (fun h80 => by exact absurd h80 (by decide)) (fun h80 => ?_)
  refine ev_aload_n_0 (pc := 83) dX0_countWays_83 ?_
  refine ev_getR (pc := 84) (r := 8) dX0_countWays_84 fl_X0_21 (by decide) (by decide) (by decide) (by decide) ?_
  refine ev_iload_5 (pc := 87) dX0_countWays_87 ?_
  refine ev_aload_n_0 (pc := 89) dX0_countWays_89 ?_
  refine ev_getR (pc := 90) (r := 8) dX0_countWays_90 fl_X0_21 (by decide) (by decide) (by decide) (by decide) ?_
  refine ev_iload_5 (pc := 93) dX0_countWays_93 ?_
  refine ev_iaload' (pc := 95) (j := 1) dX0_countWays_95 (by decide) (by decide) (show vp_in _ 7 from (vin_c (by decide))) (by decide) ?_
  refine ev_bipush (pc := 96) (v := 10) dX0_countWays_96 (by decide) ?_
  refine ev_iload_4 (pc := 98) dX0_countWays_98 ?_
  refine ev_isub (pc := 100) dX0_countWays_100 ?_
  refine ev_imul (pc := 101) dX0_countWays_101 ?_
  refine ev_aload_n_0 (pc := 102) dX0_countWays_102 ?_
  refine ev_getR (pc := 103) (r := 8) dX0_countWays_103 fl_X0_21 (by decide) (by decide) (by decide) (by decide) ?_
  refine ev_iload_5 (pc := 106) dX0_countWays_106 ?_
  refine ev_iconst (pc := 108) (v := 1) dX0_countWays_108 (by decide) ?_
  refine ev_isubc (pc := 109) (v := 0) dX0_countWays_109 (by decide) ?_
  refine ev_iaload' (pc := 110) (j := 0) dX0_countWays_110 (by decide) (by decide) (show vp_in _ 7 from (vin_c (by decide))) (by decide) ?_
  refine ev_iload_4 (pc := 111) dX0_countWays_111 ?_
  refine ev_imul (pc := 113) dX0_countWays_113 ?_
  refine ev_iadd (pc := 114) dX0_countWays_114 ?_
  refine ev_iastore' (pc := 115) (j := 1) dX0_countWays_115 (by decide) (by decide) (show vp_in _ 7 from (vin_c (by decide))) (by decide) ?_
  refine ev_iinc_5 (pc := 116) (v := 0) dX0_countWays_116 (by decide) (by decide) ?_
  refine ev_goto (pc := 119) (tgt := 78) dX0_countWays_119 (by decide) ?_
  refine ev_iload_5 (pc := 78) dX0_countWays_78 ?_
  refine ev_if_le (pc := 80) (tgt := 122) dX0_countWays_80 (by decide) (fun h80 => ?_) (fun h80 => by exact absurd h80 (by decide))
  refine ev_aload_n_0 (pc := 122) dX0_countWays_122 ?_
  refine ev_getR (pc := 123) (r := 8) dX0_countWays_123 fl_X0_21 (by decide) (by decide) (by decide) (by decide) ?_
  refine ev_iconst (pc := 126) (v := 0) dX0_countWays_126 (by decide) ?_
  refine ev_dup2 (pc := 127) dX0_countWays_127 rfl rfl ?_
  refine ev_iaload' (pc := 128) (j := 0) dX0_countWays_128 (by decide) (by decide) (show vp_in _ 7 from (vin_c (by decide))) (by decide) ?_
  refine ev_bipush (pc := 129) (v := 10) dX0_countWays_129 (by decide) ?_
  refine ev_iload_4 (pc := 131) dX0_countWays_131 ?_
  refine ev_isub (pc := 133) dX0_countWays_133 ?_
  refine ev_imul (pc := 134) dX0_countWays_134 ?_
  refine ev_iastore' (pc := 135) (j := 0) dX0_countWays_135 (by decide) (by decide) (show vp_in _ 7 from (vin_c (by decide))) (by decide) ?_
  refine ev_iinc_3 (pc := 136) (v := 2) dX0_countWays_136 (by decide) (by decide) ?_
  refine ev_goto (pc := 139) (tgt := 17) dX0_countWays_139 (by decide) ?_
  refine ev_null_4 (ev_null_5 ?_)
  refine ev_eq rfl rfl ?_ K
  refine Prod.ext (funext fun k => funext fun j => ?_) rfl
  by_cases hk : k = 8
  · subst hk
    rcases j with _ | _ | _ | _ | _ | _ | _ | j <;> simp [wr, rowSet, cwStep]
  · simp [wr, rowSet, hk]
set_option maxRecDepth 100000 in
theorem b2_X0_countWays_2 {S : Scr} (x c : Int32) (w : Nat → Int32) (σ : Sto) {Q : Option Value → Sto → Prop} (K : Ev S RX0 cX0_countWays 6 none 2 17 [.ref 5, .ref 40, .int x, .int (nI 3), .null, .null] [] (rowSet σ 8 (cwStep c 2 w)) (Q)) : Ev S RX0 cX0_countWays 6 none 2 73 [.ref 5, .ref 40, .int x, .int 2, .int c, .null] [] (rowSet σ 8 w) (Q) := by
  refine ev_iload_n_3 (pc := 73) dX0_countWays_73 ?_
  refine ev_iconst (pc := 74) (v := 1) dX0_countWays_74 (by decide) ?_
  refine ev_iaddc (pc := 75) (v := 3) dX0_countWays_75 (by decide) ?_
  refine ev_istore_5 (pc := 76) dX0_countWays_76 (by decide) ?_
  refine ev_iload_5 (pc := 78) dX0_countWays_78 ?_
  refine ev_if_le (pc := 80) (tgt := 122) dX0_countWays_80 (by decide) (fun h80 => by exact absurd h80 (by decide)) (fun h80 => ?_)
  refine ev_aload_n_0 (pc := 83) dX0_countWays_83 ?_
  refine ev_getR (pc := 84) (r := 8) dX0_countWays_84 fl_X0_21 (by decide) (by decide) (by decide) (by decide) ?_
  refine ev_iload_5 (pc := 87) dX0_countWays_87 ?_
  refine ev_aload_n_0 (pc := 89) dX0_countWays_89 ?_
  refine ev_getR (pc := 90) (r := 8) dX0_countWays_90 fl_X0_21 (by decide) (by decide) (by decide) (by decide) ?_
  refine ev_iload_5 (pc := 93) dX0_countWays_93 ?_
  refine ev_iaload' (pc := 95) (j := 3) dX0_countWays_95 (by decide) (by decide) (show vp_in _ 7 from (vin_c (by decide))) (by decide) ?_
  refine ev_bipush (pc := 96) (v := 10) dX0_countWays_96 (by decide) ?_
  refine ev_iload_4 (pc := 98) dX0_countWays_98 ?_
  refine ev_isub (pc := 100) dX0_countWays_100 ?_
  refine ev_imul (pc := 101) dX0_countWays_101 ?_
  refine ev_aload_n_0 (pc := 102) dX0_countWays_102 ?_
  refine ev_getR (pc := 103) (r := 8) dX0_countWays_103 fl_X0_21 (by decide) (by decide) (by decide) (by decide) ?_
  refine ev_iload_5 (pc := 106) dX0_countWays_106 ?_
  refine ev_iconst (pc := 108) (v := 1) dX0_countWays_108 (by decide) ?_
  refine ev_isubc (pc := 109) (v := 2) dX0_countWays_109 (by decide) ?_
  refine ev_iaload' (pc := 110) (j := 2) dX0_countWays_110 (by decide) (by decide) (show vp_in _ 7 from (vin_c (by decide))) (by decide) ?_
  refine ev_iload_4 (pc := 111) dX0_countWays_111 ?_
  refine ev_imul (pc := 113) dX0_countWays_113 ?_
  refine ev_iadd (pc := 114) dX0_countWays_114 ?_
  refine ev_iastore' (pc := 115) (j := 3) dX0_countWays_115 (by decide) (by decide) (show vp_in _ 7 from (vin_c (by decide))) (by decide) ?_
  refine ev_iinc_5 (pc := 116) (v := 2) dX0_countWays_116 (by decide) (by decide) ?_
  refine ev_goto (pc := 119) (tgt := 78) dX0_countWays_119 (by decide) ?_
  refine ev_iload_5 (pc := 78) dX0_countWays_78 ?_
  refine ev_if_le (pc := 80) (tgt := 122) dX0_countWays_80 (by decide) (fun h80 => by exact absurd h80 (by decide)) (fun h80 => ?_)
  refine ev_aload_n_0 (pc := 83) dX0_countWays_83 ?_
  refine ev_getR (pc := 84) (r := 8) dX0_countWays_84 fl_X0_21 (by decide) (by decide) (by decide) (by decide) ?_
  refine ev_iload_5 (pc := 87) dX0_countWays_87 ?_
  refine ev_aload_n_0 (pc := 89) dX0_countWays_89 ?_
  refine ev_getR (pc := 90) (r := 8) dX0_countWays_90 fl_X0_21 (by decide) (by decide) (by decide) (by decide) ?_
  refine ev_iload_5 (pc := 93) dX0_countWays_93 ?_
  refine ev_iaload' (pc := 95) (j := 2) dX0_countWays_95 (by decide) (by decide) (show vp_in _ 7 from (vin_c (by decide))) (by decide) ?_
  refine ev_bipush (pc := 96) (v := 10) dX0_countWays_96 (by decide) ?_
  refine ev_iload_4 (pc := 98) dX0_countWays_98 ?_
  refine ev_isub (pc := 100) dX0_countWays_100 ?_
  refine ev_imul (pc := 101) dX0_countWays_101 ?_
  refine ev_aload_n_0 (pc := 102) dX0_countWays_102 ?_
  refine ev_getR (pc := 103) (r := 8) dX0_countWays_103 fl_X0_21 (by decide) (by decide) (by decide) (by decide) ?_
  refine ev_iload_5 (pc := 106) dX0_countWays_106 ?_
  refine ev_iconst (pc := 108) (v := 1) dX0_countWays_108 (by decide) ?_
  refine ev_isubc (pc := 109) (v := 1) dX0_countWays_109 (by decide) ?_
  refine ev_iaload' (pc := 110) (j := 1) dX0_countWays_110 (by decide) (by decide) (show vp_in _ 7 from (vin_c (by decide))) (by decide) ?_
  refine ev_iload_4 (pc := 111) dX0_countWays_111 ?_
  refine ev_imul (pc := 113) dX0_countWays_113 ?_
  refine ev_iadd (pc := 114) dX0_countWays_114 ?_
  refine ev_iastore' (pc := 115) (j := 2) dX0_countWays_115 (by decide) (by decide) (show vp_in _ 7 from (vin_c (by decide))) (by decide) ?_
  refine ev_iinc_5 (pc := 116) (v := 1) dX0_countWays_116 (by decide) (by decide) ?_
  refine ev_goto (pc := 119) (tgt := 78) dX0_countWays_119 (by decide) ?_
  refine ev_iload_5 (pc := 78) dX0_countWays_78 ?_
  refine ev_if_le (pc := 80) (tgt := 122) dX0_countWays_80 (by decide) (fun h80 => by exact absurd h80 (by decide)) (fun h80 => ?_)
  refine ev_aload_n_0 (pc := 83) dX0_countWays_83 ?_
  refine ev_getR (pc := 84) (r := 8) dX0_countWays_84 fl_X0_21 (by decide) (by decide) (by decide) (by decide) ?_
  refine ev_iload_5 (pc := 87) dX0_countWays_87 ?_
  refine ev_aload_n_0 (pc := 89) dX0_countWays_89 ?_
  refine ev_getR (pc := 90) (r := 8) dX0_countWays_90 fl_X0_21 (by decide) (by decide) (by decide) (by decide) ?_
  refine ev_iload_5 (pc := 93) dX0_countWays_93 ?_
  refine ev_iaload' (pc := 95) (j := 1) dX0_countWays_95 (by decide) (by decide) (show vp_in _ 7 from (vin_c (by decide))) (by decide) ?_
  refine ev_bipush (pc := 96) (v := 10) dX0_countWays_96 (by decide) ?_
  refine ev_iload_4 (pc := 98) dX0_countWays_98 ?_
  refine ev_isub (pc := 100) dX0_countWays_100 ?_
  refine ev_imul (pc := 101) dX0_countWays_101 ?_
  refine ev_aload_n_0 (pc := 102) dX0_countWays_102 ?_
  refine ev_getR (pc := 103) (r := 8) dX0_countWays_103 fl_X0_21 (by decide) (by decide) (by decide) (by decide) ?_
  refine ev_iload_5 (pc := 106) dX0_countWays_106 ?_
  refine ev_iconst (pc := 108) (v := 1) dX0_countWays_108 (by decide) ?_
  refine ev_isubc (pc := 109) (v := 0) dX0_countWays_109 (by decide) ?_
  refine ev_iaload' (pc := 110) (j := 0) dX0_countWays_110 (by decide) (by decide) (show vp_in _ 7 from (vin_c (by decide))) (by decide) ?_
  refine ev_iload_4 (pc := 111) dX0_countWays_111 ?_
  refine ev_imul (pc := 113) dX0_countWays_113 ?_
  refine ev_iadd (pc := 114) dX0_countWays_114 ?_
  refine ev_iastore' (pc := 115) (j := 1) dX0_countWays_115 (by decide) (by decide) (show vp_in _ 7 from (vin_c (by decide))) (by decide) ?_
  refine ev_iinc_5 (pc := 116) (v := 0) dX0_countWays_116 (by decide) (by decide) ?_
  refine ev_goto (pc := 119) (tgt := 78) dX0_countWays_119 (by decide) ?_
  refine ev_iload_5 (pc := 78) dX0_countWays_78 ?_
  refine ev_if_le (pc := 80) (tgt := 122) dX0_countWays_80 (by decide) (fun h80 => ?_) (fun h80 => by exact absurd h80 (by decide))
  refine ev_aload_n_0 (pc := 122) dX0_countWays_122 ?_
  refine ev_getR (pc := 123) (r := 8) dX0_countWays_123 fl_X0_21 (by decide) (by decide) (by decide) (by decide) ?_
  refine ev_iconst (pc := 126) (v := 0) dX0_countWays_126 (by decide) ?_
  refine ev_dup2 (pc := 127) dX0_countWays_127 rfl rfl ?_
  refine ev_iaload' (pc := 128) (j := 0) dX0_countWays_128 (by decide) (by decide) (show vp_in _ 7 from (vin_c (by decide))) (by decide) ?_
  refine ev_bipush (pc := 129) (v := 10) dX0_countWays_129 (by decide) ?_
  refine ev_iload_4 (pc := 131) dX0_countWays_131 ?_
  refine ev_isub (pc := 133) dX0_countWays_133 ?_
  refine ev_imul (pc := 134) dX0_countWays_134 ?_
  refine ev_iastore' (pc := 135) (j := 0) dX0_countWays_135 (by decide) (by decide) (show vp_in _ 7 from (vin_c (by decide))) (by decide) ?_
  refine ev_iinc_3 (pc := 136) (v := 3) dX0_countWays_136 (by decide) (by decide) ?_
  refine ev_goto (pc := 139) (tgt := 17) dX0_countWays_139 (by decide) ?_
  refine ev_null_4 (ev_null_5 ?_)
  refine ev_eq rfl rfl ?_ K
  refine Prod.ext (funext fun k => funext fun j => ?_) rfl
  by_cases hk : k = 8
  · subst hk
    rcases j with _ | _ | _ | _ | _ | _ | _ | j <;> simp [wr, rowSet, cwStep]
  · simp [wr, rowSet, hk]
set_option maxRecDepth 100000 in
theorem b2_X0_countWays_3 {S : Scr} (x c : Int32) (w : Nat → Int32) (σ : Sto) {Q : Option Value → Sto → Prop} (K : Ev S RX0 cX0_countWays 6 none 2 17 [.ref 5, .ref 40, .int x, .int (nI 4), .null, .null] [] (rowSet σ 8 (cwStep c 3 w)) (Q)) : Ev S RX0 cX0_countWays 6 none 2 73 [.ref 5, .ref 40, .int x, .int 3, .int c, .null] [] (rowSet σ 8 w) (Q) := by
  refine ev_iload_n_3 (pc := 73) dX0_countWays_73 ?_
  refine ev_iconst (pc := 74) (v := 1) dX0_countWays_74 (by decide) ?_
  refine ev_iaddc (pc := 75) (v := 4) dX0_countWays_75 (by decide) ?_
  refine ev_istore_5 (pc := 76) dX0_countWays_76 (by decide) ?_
  refine ev_iload_5 (pc := 78) dX0_countWays_78 ?_
  refine ev_if_le (pc := 80) (tgt := 122) dX0_countWays_80 (by decide) (fun h80 => by exact absurd h80 (by decide)) (fun h80 => ?_)
  refine ev_aload_n_0 (pc := 83) dX0_countWays_83 ?_
  refine ev_getR (pc := 84) (r := 8) dX0_countWays_84 fl_X0_21 (by decide) (by decide) (by decide) (by decide) ?_
  refine ev_iload_5 (pc := 87) dX0_countWays_87 ?_
  refine ev_aload_n_0 (pc := 89) dX0_countWays_89 ?_
  refine ev_getR (pc := 90) (r := 8) dX0_countWays_90 fl_X0_21 (by decide) (by decide) (by decide) (by decide) ?_
  refine ev_iload_5 (pc := 93) dX0_countWays_93 ?_
  refine ev_iaload' (pc := 95) (j := 4) dX0_countWays_95 (by decide) (by decide) (show vp_in _ 7 from (vin_c (by decide))) (by decide) ?_
  refine ev_bipush (pc := 96) (v := 10) dX0_countWays_96 (by decide) ?_
  refine ev_iload_4 (pc := 98) dX0_countWays_98 ?_
  refine ev_isub (pc := 100) dX0_countWays_100 ?_
  refine ev_imul (pc := 101) dX0_countWays_101 ?_
  refine ev_aload_n_0 (pc := 102) dX0_countWays_102 ?_
  refine ev_getR (pc := 103) (r := 8) dX0_countWays_103 fl_X0_21 (by decide) (by decide) (by decide) (by decide) ?_
  refine ev_iload_5 (pc := 106) dX0_countWays_106 ?_
  refine ev_iconst (pc := 108) (v := 1) dX0_countWays_108 (by decide) ?_
  refine ev_isubc (pc := 109) (v := 3) dX0_countWays_109 (by decide) ?_
  refine ev_iaload' (pc := 110) (j := 3) dX0_countWays_110 (by decide) (by decide) (show vp_in _ 7 from (vin_c (by decide))) (by decide) ?_
  refine ev_iload_4 (pc := 111) dX0_countWays_111 ?_
  refine ev_imul (pc := 113) dX0_countWays_113 ?_
  refine ev_iadd (pc := 114) dX0_countWays_114 ?_
  refine ev_iastore' (pc := 115) (j := 4) dX0_countWays_115 (by decide) (by decide) (show vp_in _ 7 from (vin_c (by decide))) (by decide) ?_
  refine ev_iinc_5 (pc := 116) (v := 3) dX0_countWays_116 (by decide) (by decide) ?_
  refine ev_goto (pc := 119) (tgt := 78) dX0_countWays_119 (by decide) ?_
  refine ev_iload_5 (pc := 78) dX0_countWays_78 ?_
  refine ev_if_le (pc := 80) (tgt := 122) dX0_countWays_80 (by decide) (fun h80 => by exact absurd h80 (by decide)) (fun h80 => ?_)
  refine ev_aload_n_0 (pc := 83) dX0_countWays_83 ?_
  refine ev_getR (pc := 84) (r := 8) dX0_countWays_84 fl_X0_21 (by decide) (by decide) (by decide) (by decide) ?_
  refine ev_iload_5 (pc := 87) dX0_countWays_87 ?_
  refine ev_aload_n_0 (pc := 89) dX0_countWays_89 ?_
  refine ev_getR (pc := 90) (r := 8) dX0_countWays_90 fl_X0_21 (by decide) (by decide) (by decide) (by decide) ?_
  refine ev_iload_5 (pc := 93) dX0_countWays_93 ?_
  refine ev_iaload' (pc := 95) (j := 3) dX0_countWays_95 (by decide) (by decide) (show vp_in _ 7 from (vin_c (by decide))) (by decide) ?_
  refine ev_bipush (pc := 96) (v := 10) dX0_countWays_96 (by decide) ?_
  refine ev_iload_4 (pc := 98) dX0_countWays_98 ?_
  refine ev_isub (pc := 100) dX0_countWays_100 ?_
  refine ev_imul (pc := 101) dX0_countWays_101 ?_
  refine ev_aload_n_0 (pc := 102) dX0_countWays_102 ?_
  refine ev_getR (pc := 103) (r := 8) dX0_countWays_103 fl_X0_21 (by decide) (by decide) (by decide) (by decide) ?_
  refine ev_iload_5 (pc := 106) dX0_countWays_106 ?_
  refine ev_iconst (pc := 108) (v := 1) dX0_countWays_108 (by decide) ?_
  refine ev_isubc (pc := 109) (v := 2) dX0_countWays_109 (by decide) ?_
  refine ev_iaload' (pc := 110) (j := 2) dX0_countWays_110 (by decide) (by decide) (show vp_in _ 7 from (vin_c (by decide))) (by decide) ?_
  refine ev_iload_4 (pc := 111) dX0_countWays_111 ?_
  refine ev_imul (pc := 113) dX0_countWays_113 ?_
  refine ev_iadd (pc := 114) dX0_countWays_114 ?_
  refine ev_iastore' (pc := 115) (j := 3) dX0_countWays_115 (by decide) (by decide) (show vp_in _ 7 from (vin_c (by decide))) (by decide) ?_
  refine ev_iinc_5 (pc := 116) (v := 2) dX0_countWays_116 (by decide) (by decide) ?_
  refine ev_goto (pc := 119) (tgt := 78) dX0_countWays_119 (by decide) ?_
  refine ev_iload_5 (pc := 78) dX0_countWays_78 ?_
  refine ev_if_le (pc := 80) (tgt := 122) dX0_countWays_80 (by decide) (fun h80 => by exact absurd h80 (by decide)) (fun h80 => ?_)
  refine ev_aload_n_0 (pc := 83) dX0_countWays_83 ?_
  refine ev_getR (pc := 84) (r := 8) dX0_countWays_84 fl_X0_21 (by decide) (by decide) (by decide) (by decide) ?_
  refine ev_iload_5 (pc := 87) dX0_countWays_87 ?_
  refine ev_aload_n_0 (pc := 89) dX0_countWays_89 ?_
  refine ev_getR (pc := 90) (r := 8) dX0_countWays_90 fl_X0_21 (by decide) (by decide) (by decide) (by decide) ?_
  refine ev_iload_5 (pc := 93) dX0_countWays_93 ?_
  refine ev_iaload' (pc := 95) (j := 2) dX0_countWays_95 (by decide) (by decide) (show vp_in _ 7 from (vin_c (by decide))) (by decide) ?_
  refine ev_bipush (pc := 96) (v := 10) dX0_countWays_96 (by decide) ?_
  refine ev_iload_4 (pc := 98) dX0_countWays_98 ?_
  refine ev_isub (pc := 100) dX0_countWays_100 ?_
  refine ev_imul (pc := 101) dX0_countWays_101 ?_
  refine ev_aload_n_0 (pc := 102) dX0_countWays_102 ?_
  refine ev_getR (pc := 103) (r := 8) dX0_countWays_103 fl_X0_21 (by decide) (by decide) (by decide) (by decide) ?_
  refine ev_iload_5 (pc := 106) dX0_countWays_106 ?_
  refine ev_iconst (pc := 108) (v := 1) dX0_countWays_108 (by decide) ?_
  refine ev_isubc (pc := 109) (v := 1) dX0_countWays_109 (by decide) ?_
  refine ev_iaload' (pc := 110) (j := 1) dX0_countWays_110 (by decide) (by decide) (show vp_in _ 7 from (vin_c (by decide))) (by decide) ?_
  refine ev_iload_4 (pc := 111) dX0_countWays_111 ?_
  refine ev_imul (pc := 113) dX0_countWays_113 ?_
  refine ev_iadd (pc := 114) dX0_countWays_114 ?_
  refine ev_iastore' (pc := 115) (j := 2) dX0_countWays_115 (by decide) (by decide) (show vp_in _ 7 from (vin_c (by decide))) (by decide) ?_
  refine ev_iinc_5 (pc := 116) (v := 1) dX0_countWays_116 (by decide) (by decide) ?_
  refine ev_goto (pc := 119) (tgt := 78) dX0_countWays_119 (by decide) ?_
  refine ev_iload_5 (pc := 78) dX0_countWays_78 ?_
  refine ev_if_le (pc := 80) (tgt := 122) dX0_countWays_80 (by decide) (fun h80 => by exact absurd h80 (by decide)) (fun h80 => ?_)
  refine ev_aload_n_0 (pc := 83) dX0_countWays_83 ?_
  refine ev_getR (pc := 84) (r := 8) dX0_countWays_84 fl_X0_21 (by decide) (by decide) (by decide) (by decide) ?_
  refine ev_iload_5 (pc := 87) dX0_countWays_87 ?_
  refine ev_aload_n_0 (pc := 89) dX0_countWays_89 ?_
  refine ev_getR (pc := 90) (r := 8) dX0_countWays_90 fl_X0_21 (by decide) (by decide) (by decide) (by decide) ?_
  refine ev_iload_5 (pc := 93) dX0_countWays_93 ?_
  refine ev_iaload' (pc := 95) (j := 1) dX0_countWays_95 (by decide) (by decide) (show vp_in _ 7 from (vin_c (by decide))) (by decide) ?_
  refine ev_bipush (pc := 96) (v := 10) dX0_countWays_96 (by decide) ?_
  refine ev_iload_4 (pc := 98) dX0_countWays_98 ?_
  refine ev_isub (pc := 100) dX0_countWays_100 ?_
  refine ev_imul (pc := 101) dX0_countWays_101 ?_
  refine ev_aload_n_0 (pc := 102) dX0_countWays_102 ?_
  refine ev_getR (pc := 103) (r := 8) dX0_countWays_103 fl_X0_21 (by decide) (by decide) (by decide) (by decide) ?_
  refine ev_iload_5 (pc := 106) dX0_countWays_106 ?_
  refine ev_iconst (pc := 108) (v := 1) dX0_countWays_108 (by decide) ?_
  refine ev_isubc (pc := 109) (v := 0) dX0_countWays_109 (by decide) ?_
  refine ev_iaload' (pc := 110) (j := 0) dX0_countWays_110 (by decide) (by decide) (show vp_in _ 7 from (vin_c (by decide))) (by decide) ?_
  refine ev_iload_4 (pc := 111) dX0_countWays_111 ?_
  refine ev_imul (pc := 113) dX0_countWays_113 ?_
  refine ev_iadd (pc := 114) dX0_countWays_114 ?_
  refine ev_iastore' (pc := 115) (j := 1) dX0_countWays_115 (by decide) (by decide) (show vp_in _ 7 from (vin_c (by decide))) (by decide) ?_
  refine ev_iinc_5 (pc := 116) (v := 0) dX0_countWays_116 (by decide) (by decide) ?_
  refine ev_goto (pc := 119) (tgt := 78) dX0_countWays_119 (by decide) ?_
  refine ev_iload_5 (pc := 78) dX0_countWays_78 ?_
  refine ev_if_le (pc := 80) (tgt := 122) dX0_countWays_80 (by decide) (fun h80 => ?_) (fun h80 => by exact absurd h80 (by decide))
  refine ev_aload_n_0 (pc := 122) dX0_countWays_122 ?_
  refine ev_getR (pc := 123) (r := 8) dX0_countWays_123 fl_X0_21 (by decide) (by decide) (by decide) (by decide) ?_
  refine ev_iconst (pc := 126) (v := 0) dX0_countWays_126 (by decide) ?_
  refine ev_dup2 (pc := 127) dX0_countWays_127 rfl rfl ?_
  refine ev_iaload' (pc := 128) (j := 0) dX0_countWays_128 (by decide) (by decide) (show vp_in _ 7 from (vin_c (by decide))) (by decide) ?_
  refine ev_bipush (pc := 129) (v := 10) dX0_countWays_129 (by decide) ?_
  refine ev_iload_4 (pc := 131) dX0_countWays_131 ?_
  refine ev_isub (pc := 133) dX0_countWays_133 ?_
  refine ev_imul (pc := 134) dX0_countWays_134 ?_
  refine ev_iastore' (pc := 135) (j := 0) dX0_countWays_135 (by decide) (by decide) (show vp_in _ 7 from (vin_c (by decide))) (by decide) ?_
  refine ev_iinc_3 (pc := 136) (v := 4) dX0_countWays_136 (by decide) (by decide) ?_
  refine ev_goto (pc := 139) (tgt := 17) dX0_countWays_139 (by decide) ?_
  refine ev_null_4 (ev_null_5 ?_)
  refine ev_eq rfl rfl ?_ K
  refine Prod.ext (funext fun k => funext fun j => ?_) rfl
  by_cases hk : k = 8
  · subst hk
    rcases j with _ | _ | _ | _ | _ | _ | _ | j <;> simp [wr, rowSet, cwStep]
  · simp [wr, rowSet, hk]
set_option maxRecDepth 100000 in
theorem b2_X0_countWays_4 {S : Scr} (x c : Int32) (w : Nat → Int32) (σ : Sto) {Q : Option Value → Sto → Prop} (K : Ev S RX0 cX0_countWays 6 none 2 17 [.ref 5, .ref 40, .int x, .int (nI 5), .null, .null] [] (rowSet σ 8 (cwStep c 4 w)) (Q)) : Ev S RX0 cX0_countWays 6 none 2 73 [.ref 5, .ref 40, .int x, .int 4, .int c, .null] [] (rowSet σ 8 w) (Q) := by
  refine ev_iload_n_3 (pc := 73) dX0_countWays_73 ?_
  refine ev_iconst (pc := 74) (v := 1) dX0_countWays_74 (by decide) ?_
  refine ev_iaddc (pc := 75) (v := 5) dX0_countWays_75 (by decide) ?_
  refine ev_istore_5 (pc := 76) dX0_countWays_76 (by decide) ?_
  refine ev_iload_5 (pc := 78) dX0_countWays_78 ?_
  refine ev_if_le (pc := 80) (tgt := 122) dX0_countWays_80 (by decide) (fun h80 => by exact absurd h80 (by decide)) (fun h80 => ?_)
  refine ev_aload_n_0 (pc := 83) dX0_countWays_83 ?_
  refine ev_getR (pc := 84) (r := 8) dX0_countWays_84 fl_X0_21 (by decide) (by decide) (by decide) (by decide) ?_
  refine ev_iload_5 (pc := 87) dX0_countWays_87 ?_
  refine ev_aload_n_0 (pc := 89) dX0_countWays_89 ?_
  refine ev_getR (pc := 90) (r := 8) dX0_countWays_90 fl_X0_21 (by decide) (by decide) (by decide) (by decide) ?_
  refine ev_iload_5 (pc := 93) dX0_countWays_93 ?_
  refine ev_iaload' (pc := 95) (j := 5) dX0_countWays_95 (by decide) (by decide) (show vp_in _ 7 from (vin_c (by decide))) (by decide) ?_
  refine ev_bipush (pc := 96) (v := 10) dX0_countWays_96 (by decide) ?_
  refine ev_iload_4 (pc := 98) dX0_countWays_98 ?_
  refine ev_isub (pc := 100) dX0_countWays_100 ?_
  refine ev_imul (pc := 101) dX0_countWays_101 ?_
  refine ev_aload_n_0 (pc := 102) dX0_countWays_102 ?_
  refine ev_getR (pc := 103) (r := 8) dX0_countWays_103 fl_X0_21 (by decide) (by decide) (by decide) (by decide) ?_
  refine ev_iload_5 (pc := 106) dX0_countWays_106 ?_
  refine ev_iconst (pc := 108) (v := 1) dX0_countWays_108 (by decide) ?_
  refine ev_isubc (pc := 109) (v := 4) dX0_countWays_109 (by decide) ?_
  refine ev_iaload' (pc := 110) (j := 4) dX0_countWays_110 (by decide) (by decide) (show vp_in _ 7 from (vin_c (by decide))) (by decide) ?_
  refine ev_iload_4 (pc := 111) dX0_countWays_111 ?_
  refine ev_imul (pc := 113) dX0_countWays_113 ?_
  refine ev_iadd (pc := 114) dX0_countWays_114 ?_
  refine ev_iastore' (pc := 115) (j := 5) dX0_countWays_115 (by decide) (by decide) (show vp_in _ 7 from (vin_c (by decide))) (by decide) ?_
  refine ev_iinc_5 (pc := 116) (v := 4) dX0_countWays_116 (by decide) (by decide) ?_
  refine ev_goto (pc := 119) (tgt := 78) dX0_countWays_119 (by decide) ?_
  refine ev_iload_5 (pc := 78) dX0_countWays_78 ?_
  refine ev_if_le (pc := 80) (tgt := 122) dX0_countWays_80 (by decide) (fun h80 => by exact absurd h80 (by decide)) (fun h80 => ?_)
  refine ev_aload_n_0 (pc := 83) dX0_countWays_83 ?_
  refine ev_getR (pc := 84) (r := 8) dX0_countWays_84 fl_X0_21 (by decide) (by decide) (by decide) (by decide) ?_
  refine ev_iload_5 (pc := 87) dX0_countWays_87 ?_
  refine ev_aload_n_0 (pc := 89) dX0_countWays_89 ?_
  refine ev_getR (pc := 90) (r := 8) dX0_countWays_90 fl_X0_21 (by decide) (by decide) (by decide) (by decide) ?_
  refine ev_iload_5 (pc := 93) dX0_countWays_93 ?_
  refine ev_iaload' (pc := 95) (j := 4) dX0_countWays_95 (by decide) (by decide) (show vp_in _ 7 from (vin_c (by decide))) (by decide) ?_
  refine ev_bipush (pc := 96) (v := 10) dX0_countWays_96 (by decide) ?_
  refine ev_iload_4 (pc := 98) dX0_countWays_98 ?_
  refine ev_isub (pc := 100) dX0_countWays_100 ?_
  refine ev_imul (pc := 101) dX0_countWays_101 ?_
  refine ev_aload_n_0 (pc := 102) dX0_countWays_102 ?_
  refine ev_getR (pc := 103) (r := 8) dX0_countWays_103 fl_X0_21 (by decide) (by decide) (by decide) (by decide) ?_
  refine ev_iload_5 (pc := 106) dX0_countWays_106 ?_
  refine ev_iconst (pc := 108) (v := 1) dX0_countWays_108 (by decide) ?_
  refine ev_isubc (pc := 109) (v := 3) dX0_countWays_109 (by decide) ?_
  refine ev_iaload' (pc := 110) (j := 3) dX0_countWays_110 (by decide) (by decide) (show vp_in _ 7 from (vin_c (by decide))) (by decide) ?_
  refine ev_iload_4 (pc := 111) dX0_countWays_111 ?_
  refine ev_imul (pc := 113) dX0_countWays_113 ?_
  refine ev_iadd (pc := 114) dX0_countWays_114 ?_
  refine ev_iastore' (pc := 115) (j := 4) dX0_countWays_115 (by decide) (by decide) (show vp_in _ 7 from (vin_c (by decide))) (by decide) ?_
  refine ev_iinc_5 (pc := 116) (v := 3) dX0_countWays_116 (by decide) (by decide) ?_
  refine ev_goto (pc := 119) (tgt := 78) dX0_countWays_119 (by decide) ?_
  refine ev_iload_5 (pc := 78) dX0_countWays_78 ?_
  refine ev_if_le (pc := 80) (tgt := 122) dX0_countWays_80 (by decide) (fun h80 => by exact absurd h80 (by decide)) (fun h80 => ?_)
  refine ev_aload_n_0 (pc := 83) dX0_countWays_83 ?_
  refine ev_getR (pc := 84) (r := 8) dX0_countWays_84 fl_X0_21 (by decide) (by decide) (by decide) (by decide) ?_
  refine ev_iload_5 (pc := 87) dX0_countWays_87 ?_
  refine ev_aload_n_0 (pc := 89) dX0_countWays_89 ?_
  refine ev_getR (pc := 90) (r := 8) dX0_countWays_90 fl_X0_21 (by decide) (by decide) (by decide) (by decide) ?_
  refine ev_iload_5 (pc := 93) dX0_countWays_93 ?_
  refine ev_iaload' (pc := 95) (j := 3) dX0_countWays_95 (by decide) (by decide) (show vp_in _ 7 from (vin_c (by decide))) (by decide) ?_
  refine ev_bipush (pc := 96) (v := 10) dX0_countWays_96 (by decide) ?_
  refine ev_iload_4 (pc := 98) dX0_countWays_98 ?_
  refine ev_isub (pc := 100) dX0_countWays_100 ?_
  refine ev_imul (pc := 101) dX0_countWays_101 ?_
  refine ev_aload_n_0 (pc := 102) dX0_countWays_102 ?_
  refine ev_getR (pc := 103) (r := 8) dX0_countWays_103 fl_X0_21 (by decide) (by decide) (by decide) (by decide) ?_
  refine ev_iload_5 (pc := 106) dX0_countWays_106 ?_
  refine ev_iconst (pc := 108) (v := 1) dX0_countWays_108 (by decide) ?_
  refine ev_isubc (pc := 109) (v := 2) dX0_countWays_109 (by decide) ?_
  refine ev_iaload' (pc := 110) (j := 2) dX0_countWays_110 (by decide) (by decide) (show vp_in _ 7 from (vin_c (by decide))) (by decide) ?_
  refine ev_iload_4 (pc := 111) dX0_countWays_111 ?_
  refine ev_imul (pc := 113) dX0_countWays_113 ?_
  refine ev_iadd (pc := 114) dX0_countWays_114 ?_
  refine ev_iastore' (pc := 115) (j := 3) dX0_countWays_115 (by decide) (by decide) (show vp_in _ 7 from (vin_c (by decide))) (by decide) ?_
  refine ev_iinc_5 (pc := 116) (v := 2) dX0_countWays_116 (by decide) (by decide) ?_
  refine ev_goto (pc := 119) (tgt := 78) dX0_countWays_119 (by decide) ?_
  refine ev_iload_5 (pc := 78) dX0_countWays_78 ?_
  refine ev_if_le (pc := 80) (tgt := 122) dX0_countWays_80 (by decide) (fun h80 => by exact absurd h80 (by decide)) (fun h80 => ?_)
  refine ev_aload_n_0 (pc := 83) dX0_countWays_83 ?_
  refine ev_getR (pc := 84) (r := 8) dX0_countWays_84 fl_X0_21 (by decide) (by decide) (by decide) (by decide) ?_
  refine ev_iload_5 (pc := 87) dX0_countWays_87 ?_
  refine ev_aload_n_0 (pc := 89) dX0_countWays_89 ?_
  refine ev_getR (pc := 90) (r := 8) dX0_countWays_90 fl_X0_21 (by decide) (by decide) (by decide) (by decide) ?_
  refine ev_iload_5 (pc := 93) dX0_countWays_93 ?_
  refine ev_iaload' (pc := 95) (j := 2) dX0_countWays_95 (by decide) (by decide) (show vp_in _ 7 from (vin_c (by decide))) (by decide) ?_
  refine ev_bipush (pc := 96) (v := 10) dX0_countWays_96 (by decide) ?_
  refine ev_iload_4 (pc := 98) dX0_countWays_98 ?_
  refine ev_isub (pc := 100) dX0_countWays_100 ?_
  refine ev_imul (pc := 101) dX0_countWays_101 ?_
  refine ev_aload_n_0 (pc := 102) dX0_countWays_102 ?_
  refine ev_getR (pc := 103) (r := 8) dX0_countWays_103 fl_X0_21 (by decide) (by decide) (by decide) (by decide) ?_
  refine ev_iload_5 (pc := 106) dX0_countWays_106 ?_
  refine ev_iconst (pc := 108) (v := 1) dX0_countWays_108 (by decide) ?_
  refine ev_isubc (pc := 109) (v := 1) dX0_countWays_109 (by decide) ?_
  refine ev_iaload' (pc := 110) (j := 1) dX0_countWays_110 (by decide) (by decide) (show vp_in _ 7 from (vin_c (by decide))) (by decide) ?_
  refine ev_iload_4 (pc := 111) dX0_countWays_111 ?_
  refine ev_imul (pc := 113) dX0_countWays_113 ?_
  refine ev_iadd (pc := 114) dX0_countWays_114 ?_
  refine ev_iastore' (pc := 115) (j := 2) dX0_countWays_115 (by decide) (by decide) (show vp_in _ 7 from (vin_c (by decide))) (by decide) ?_
  refine ev_iinc_5 (pc := 116) (v := 1) dX0_countWays_116 (by decide) (by decide) ?_
  refine ev_goto (pc := 119) (tgt := 78) dX0_countWays_119 (by decide) ?_
  refine ev_iload_5 (pc := 78) dX0_countWays_78 ?_
  refine ev_if_le (pc := 80) (tgt := 122) dX0_countWays_80 (by decide) (fun h80 => by exact absurd h80 (by decide)) (fun h80 => ?_)
  refine ev_aload_n_0 (pc := 83) dX0_countWays_83 ?_
  refine ev_getR (pc := 84) (r := 8) dX0_countWays_84 fl_X0_21 (by decide) (by decide) (by decide) (by decide) ?_
  refine ev_iload_5 (pc := 87) dX0_countWays_87 ?_
  refine ev_aload_n_0 (pc := 89) dX0_countWays_89 ?_
  refine ev_getR (pc := 90) (r := 8) dX0_countWays_90 fl_X0_21 (by decide) (by decide) (by decide) (by decide) ?_
  refine ev_iload_5 (pc := 93) dX0_countWays_93 ?_
  refine ev_iaload' (pc := 95) (j := 1) dX0_countWays_95 (by decide) (by decide) (show vp_in _ 7 from (vin_c (by decide))) (by decide) ?_
  refine ev_bipush (pc := 96) (v := 10) dX0_countWays_96 (by decide) ?_
  refine ev_iload_4 (pc := 98) dX0_countWays_98 ?_
  refine ev_isub (pc := 100) dX0_countWays_100 ?_
  refine ev_imul (pc := 101) dX0_countWays_101 ?_
  refine ev_aload_n_0 (pc := 102) dX0_countWays_102 ?_
  refine ev_getR (pc := 103) (r := 8) dX0_countWays_103 fl_X0_21 (by decide) (by decide) (by decide) (by decide) ?_
  refine ev_iload_5 (pc := 106) dX0_countWays_106 ?_
  refine ev_iconst (pc := 108) (v := 1) dX0_countWays_108 (by decide) ?_
  refine ev_isubc (pc := 109) (v := 0) dX0_countWays_109 (by decide) ?_
  refine ev_iaload' (pc := 110) (j := 0) dX0_countWays_110 (by decide) (by decide) (show vp_in _ 7 from (vin_c (by decide))) (by decide) ?_
  refine ev_iload_4 (pc := 111) dX0_countWays_111 ?_
  refine ev_imul (pc := 113) dX0_countWays_113 ?_
  refine ev_iadd (pc := 114) dX0_countWays_114 ?_
  refine ev_iastore' (pc := 115) (j := 1) dX0_countWays_115 (by decide) (by decide) (show vp_in _ 7 from (vin_c (by decide))) (by decide) ?_
  refine ev_iinc_5 (pc := 116) (v := 0) dX0_countWays_116 (by decide) (by decide) ?_
  refine ev_goto (pc := 119) (tgt := 78) dX0_countWays_119 (by decide) ?_
  refine ev_iload_5 (pc := 78) dX0_countWays_78 ?_
  refine ev_if_le (pc := 80) (tgt := 122) dX0_countWays_80 (by decide) (fun h80 => ?_) (fun h80 => by exact absurd h80 (by decide))
  refine ev_aload_n_0 (pc := 122) dX0_countWays_122 ?_
  refine ev_getR (pc := 123) (r := 8) dX0_countWays_123 fl_X0_21 (by decide) (by decide) (by decide) (by decide) ?_
  refine ev_iconst (pc := 126) (v := 0) dX0_countWays_126 (by decide) ?_
  refine ev_dup2 (pc := 127) dX0_countWays_127 rfl rfl ?_
  refine ev_iaload' (pc := 128) (j := 0) dX0_countWays_128 (by decide) (by decide) (show vp_in _ 7 from (vin_c (by decide))) (by decide) ?_
  refine ev_bipush (pc := 129) (v := 10) dX0_countWays_129 (by decide) ?_
  refine ev_iload_4 (pc := 131) dX0_countWays_131 ?_
  refine ev_isub (pc := 133) dX0_countWays_133 ?_
  refine ev_imul (pc := 134) dX0_countWays_134 ?_
  refine ev_iastore' (pc := 135) (j := 0) dX0_countWays_135 (by decide) (by decide) (show vp_in _ 7 from (vin_c (by decide))) (by decide) ?_
  refine ev_iinc_3 (pc := 136) (v := 5) dX0_countWays_136 (by decide) (by decide) ?_
  refine ev_goto (pc := 139) (tgt := 17) dX0_countWays_139 (by decide) ?_
  refine ev_null_4 (ev_null_5 ?_)
  refine ev_eq rfl rfl ?_ K
  refine Prod.ext (funext fun k => funext fun j => ?_) rfl
  by_cases hk : k = 8
  · subst hk
    rcases j with _ | _ | _ | _ | _ | _ | _ | j <;> simp [wr, rowSet, cwStep]
  · simp [wr, rowSet, hk]
set_option maxRecDepth 100000 in
theorem b2_X0_countWays_5 {S : Scr} (x c : Int32) (w : Nat → Int32) (σ : Sto) {Q : Option Value → Sto → Prop} (K : Ev S RX0 cX0_countWays 6 none 2 17 [.ref 5, .ref 40, .int x, .int (nI 6), .null, .null] [] (rowSet σ 8 (cwStep c 5 w)) (Q)) : Ev S RX0 cX0_countWays 6 none 2 73 [.ref 5, .ref 40, .int x, .int 5, .int c, .null] [] (rowSet σ 8 w) (Q) := by
  refine ev_iload_n_3 (pc := 73) dX0_countWays_73 ?_
  refine ev_iconst (pc := 74) (v := 1) dX0_countWays_74 (by decide) ?_
  refine ev_iaddc (pc := 75) (v := 6) dX0_countWays_75 (by decide) ?_
  refine ev_istore_5 (pc := 76) dX0_countWays_76 (by decide) ?_
  refine ev_iload_5 (pc := 78) dX0_countWays_78 ?_
  refine ev_if_le (pc := 80) (tgt := 122) dX0_countWays_80 (by decide) (fun h80 => by exact absurd h80 (by decide)) (fun h80 => ?_)
  refine ev_aload_n_0 (pc := 83) dX0_countWays_83 ?_
  refine ev_getR (pc := 84) (r := 8) dX0_countWays_84 fl_X0_21 (by decide) (by decide) (by decide) (by decide) ?_
  refine ev_iload_5 (pc := 87) dX0_countWays_87 ?_
  refine ev_aload_n_0 (pc := 89) dX0_countWays_89 ?_
  refine ev_getR (pc := 90) (r := 8) dX0_countWays_90 fl_X0_21 (by decide) (by decide) (by decide) (by decide) ?_
  refine ev_iload_5 (pc := 93) dX0_countWays_93 ?_
  refine ev_iaload' (pc := 95) (j := 6) dX0_countWays_95 (by decide) (by decide) (show vp_in _ 7 from (vin_c (by decide))) (by decide) ?_
  refine ev_bipush (pc := 96) (v := 10) dX0_countWays_96 (by decide) ?_
  refine ev_iload_4 (pc := 98) dX0_countWays_98 ?_
  refine ev_isub (pc := 100) dX0_countWays_100 ?_
  refine ev_imul (pc := 101) dX0_countWays_101 ?_
  refine ev_aload_n_0 (pc := 102) dX0_countWays_102 ?_
  refine ev_getR (pc := 103) (r := 8) dX0_countWays_103 fl_X0_21 (by decide) (by decide) (by decide) (by decide) ?_
  refine ev_iload_5 (pc := 106) dX0_countWays_106 ?_
  refine ev_iconst (pc := 108) (v := 1) dX0_countWays_108 (by decide) ?_
  refine ev_isubc (pc := 109) (v := 5) dX0_countWays_109 (by decide) ?_
  refine ev_iaload' (pc := 110) (j := 5) dX0_countWays_110 (by decide) (by decide) (show vp_in _ 7 from (vin_c (by decide))) (by decide) ?_
  refine ev_iload_4 (pc := 111) dX0_countWays_111 ?_
  refine ev_imul (pc := 113) dX0_countWays_113 ?_
  refine ev_iadd (pc := 114) dX0_countWays_114 ?_
  refine ev_iastore' (pc := 115) (j := 6) dX0_countWays_115 (by decide) (by decide) (show vp_in _ 7 from (vin_c (by decide))) (by decide) ?_
  refine ev_iinc_5 (pc := 116) (v := 5) dX0_countWays_116 (by decide) (by decide) ?_
  refine ev_goto (pc := 119) (tgt := 78) dX0_countWays_119 (by decide) ?_
  refine ev_iload_5 (pc := 78) dX0_countWays_78 ?_
  refine ev_if_le (pc := 80) (tgt := 122) dX0_countWays_80 (by decide) (fun h80 => by exact absurd h80 (by decide)) (fun h80 => ?_)
  refine ev_aload_n_0 (pc := 83) dX0_countWays_83 ?_
  refine ev_getR (pc := 84) (r := 8) dX0_countWays_84 fl_X0_21 (by decide) (by decide) (by decide) (by decide) ?_
  refine ev_iload_5 (pc := 87) dX0_countWays_87 ?_
  refine ev_aload_n_0 (pc := 89) dX0_countWays_89 ?_
  refine ev_getR (pc := 90) (r := 8) dX0_countWays_90 fl_X0_21 (by decide) (by decide) (by decide) (by decide) ?_
  refine ev_iload_5 (pc := 93) dX0_countWays_93 ?_
  refine ev_iaload' (pc := 95) (j := 5) dX0_countWays_95 (by decide) (by decide) (show vp_in _ 7 from (vin_c (by decide))) (by decide) ?_
  refine ev_bipush (pc := 96) (v := 10) dX0_countWays_96 (by decide) ?_
  refine ev_iload_4 (pc := 98) dX0_countWays_98 ?_
  refine ev_isub (pc := 100) dX0_countWays_100 ?_
  refine ev_imul (pc := 101) dX0_countWays_101 ?_
  refine ev_aload_n_0 (pc := 102) dX0_countWays_102 ?_
  refine ev_getR (pc := 103) (r := 8) dX0_countWays_103 fl_X0_21 (by decide) (by decide) (by decide) (by decide) ?_
  refine ev_iload_5 (pc := 106) dX0_countWays_106 ?_
  refine ev_iconst (pc := 108) (v := 1) dX0_countWays_108 (by decide) ?_
  refine ev_isubc (pc := 109) (v := 4) dX0_countWays_109 (by decide) ?_
  refine ev_iaload' (pc := 110) (j := 4) dX0_countWays_110 (by decide) (by decide) (show vp_in _ 7 from (vin_c (by decide))) (by decide) ?_
  refine ev_iload_4 (pc := 111) dX0_countWays_111 ?_
  refine ev_imul (pc := 113) dX0_countWays_113 ?_
  refine ev_iadd (pc := 114) dX0_countWays_114 ?_
  refine ev_iastore' (pc := 115) (j := 5) dX0_countWays_115 (by decide) (by decide) (show vp_in _ 7 from (vin_c (by decide))) (by decide) ?_
  refine ev_iinc_5 (pc := 116) (v := 4) dX0_countWays_116 (by decide) (by decide) ?_
  refine ev_goto (pc := 119) (tgt := 78) dX0_countWays_119 (by decide) ?_
  refine ev_iload_5 (pc := 78) dX0_countWays_78 ?_
  refine ev_if_le (pc := 80) (tgt := 122) dX0_countWays_80 (by decide) (fun h80 => by exact absurd h80 (by decide)) (fun h80 => ?_)
  refine ev_aload_n_0 (pc := 83) dX0_countWays_83 ?_
  refine ev_getR (pc := 84) (r := 8) dX0_countWays_84 fl_X0_21 (by decide) (by decide) (by decide) (by decide) ?_
  refine ev_iload_5 (pc := 87) dX0_countWays_87 ?_
  refine ev_aload_n_0 (pc := 89) dX0_countWays_89 ?_
  refine ev_getR (pc := 90) (r := 8) dX0_countWays_90 fl_X0_21 (by decide) (by decide) (by decide) (by decide) ?_
  refine ev_iload_5 (pc := 93) dX0_countWays_93 ?_
  refine ev_iaload' (pc := 95) (j := 4) dX0_countWays_95 (by decide) (by decide) (show vp_in _ 7 from (vin_c (by decide))) (by decide) ?_
  refine ev_bipush (pc := 96) (v := 10) dX0_countWays_96 (by decide) ?_
  refine ev_iload_4 (pc := 98) dX0_countWays_98 ?_
  refine ev_isub (pc := 100) dX0_countWays_100 ?_
  refine ev_imul (pc := 101) dX0_countWays_101 ?_
  refine ev_aload_n_0 (pc := 102) dX0_countWays_102 ?_
  refine ev_getR (pc := 103) (r := 8) dX0_countWays_103 fl_X0_21 (by decide) (by decide) (by decide) (by decide) ?_
  refine ev_iload_5 (pc := 106) dX0_countWays_106 ?_
  refine ev_iconst (pc := 108) (v := 1) dX0_countWays_108 (by decide) ?_
  refine ev_isubc (pc := 109) (v := 3) dX0_countWays_109 (by decide) ?_
  refine ev_iaload' (pc := 110) (j := 3) dX0_countWays_110 (by decide) (by decide) (show vp_in _ 7 from (vin_c (by decide))) (by decide) ?_
  refine ev_iload_4 (pc := 111) dX0_countWays_111 ?_
  refine ev_imul (pc := 113) dX0_countWays_113 ?_
  refine ev_iadd (pc := 114) dX0_countWays_114 ?_
  refine ev_iastore' (pc := 115) (j := 4) dX0_countWays_115 (by decide) (by decide) (show vp_in _ 7 from (vin_c (by decide))) (by decide) ?_
  refine ev_iinc_5 (pc := 116) (v := 3) dX0_countWays_116 (by decide) (by decide) ?_
  refine ev_goto (pc := 119) (tgt := 78) dX0_countWays_119 (by decide) ?_
  refine ev_iload_5 (pc := 78) dX0_countWays_78 ?_
  refine ev_if_le (pc := 80) (tgt := 122) dX0_countWays_80 (by decide) (fun h80 => by exact absurd h80 (by decide)) (fun h80 => ?_)
  refine ev_aload_n_0 (pc := 83) dX0_countWays_83 ?_
  refine ev_getR (pc := 84) (r := 8) dX0_countWays_84 fl_X0_21 (by decide) (by decide) (by decide) (by decide) ?_
  refine ev_iload_5 (pc := 87) dX0_countWays_87 ?_
  refine ev_aload_n_0 (pc := 89) dX0_countWays_89 ?_
  refine ev_getR (pc := 90) (r := 8) dX0_countWays_90 fl_X0_21 (by decide) (by decide) (by decide) (by decide) ?_
  refine ev_iload_5 (pc := 93) dX0_countWays_93 ?_
  refine ev_iaload' (pc := 95) (j := 3) dX0_countWays_95 (by decide) (by decide) (show vp_in _ 7 from (vin_c (by decide))) (by decide) ?_
  refine ev_bipush (pc := 96) (v := 10) dX0_countWays_96 (by decide) ?_
  refine ev_iload_4 (pc := 98) dX0_countWays_98 ?_
  refine ev_isub (pc := 100) dX0_countWays_100 ?_
  refine ev_imul (pc := 101) dX0_countWays_101 ?_
  refine ev_aload_n_0 (pc := 102) dX0_countWays_102 ?_
  refine ev_getR (pc := 103) (r := 8) dX0_countWays_103 fl_X0_21 (by decide) (by decide) (by decide) (by decide) ?_
  refine ev_iload_5 (pc := 106) dX0_countWays_106 ?_
  refine ev_iconst (pc := 108) (v := 1) dX0_countWays_108 (by decide) ?_
  refine ev_isubc (pc := 109) (v := 2) dX0_countWays_109 (by decide) ?_
  refine ev_iaload' (pc := 110) (j := 2) dX0_countWays_110 (by decide) (by decide) (show vp_in _ 7 from (vin_c (by decide))) (by decide) ?_
  refine ev_iload_4 (pc := 111) dX0_countWays_111 ?_
  refine ev_imul (pc := 113) dX0_countWays_113 ?_
  refine ev_iadd (pc := 114) dX0_countWays_114 ?_
  refine ev_iastore' (pc := 115) (j := 3) dX0_countWays_115 (by decide) (by decide) (show vp_in _ 7 from (vin_c (by decide))) (by decide) ?_
  refine ev_iinc_5 (pc := 116) (v := 2) dX0_countWays_116 (by decide) (by decide) ?_
  refine ev_goto (pc := 119) (tgt := 78) dX0_countWays_119 (by decide) ?_
  refine ev_iload_5 (pc := 78) dX0_countWays_78 ?_
  refine ev_if_le (pc := 80) (tgt := 122) dX0_countWays_80 (by decide) (fun h80 => by exact absurd h80 (by decide)) (fun h80 => ?_)
  refine ev_aload_n_0 (pc := 83) dX0_countWays_83 ?_
  refine ev_getR (pc := 84) (r := 8) dX0_countWays_84 fl_X0_21 (by decide) (by decide) (by decide) (by decide) ?_
  refine ev_iload_5 (pc := 87) dX0_countWays_87 ?_
  refine ev_aload_n_0 (pc := 89) dX0_countWays_89 ?_
  refine ev_getR (pc := 90) (r := 8) dX0_countWays_90 fl_X0_21 (by decide) (by decide) (by decide) (by decide) ?_
  refine ev_iload_5 (pc := 93) dX0_countWays_93 ?_
  refine ev_iaload' (pc := 95) (j := 2) dX0_countWays_95 (by decide) (by decide) (show vp_in _ 7 from (vin_c (by decide))) (by decide) ?_
  refine ev_bipush (pc := 96) (v := 10) dX0_countWays_96 (by decide) ?_
  refine ev_iload_4 (pc := 98) dX0_countWays_98 ?_
  refine ev_isub (pc := 100) dX0_countWays_100 ?_
  refine ev_imul (pc := 101) dX0_countWays_101 ?_
  refine ev_aload_n_0 (pc := 102) dX0_countWays_102 ?_
  refine ev_getR (pc := 103) (r := 8) dX0_countWays_103 fl_X0_21 (by decide) (by decide) (by decide) (by decide) ?_
  refine ev_iload_5 (pc := 106) dX0_countWays_106 ?_
  refine ev_iconst (pc := 108) (v := 1) dX0_countWays_108 (by decide) ?_
  refine ev_isubc (pc := 109) (v := 1) dX0_countWays_109 (by decide) ?_
  refine ev_iaload' (pc := 110) (j := 1) dX0_countWays_110 (by decide) (by decide) (show vp_in _ 7 from (vin_c (by decide))) (by decide) ?_
  refine ev_iload_4 (pc := 111) dX0_countWays_111 ?_
  refine ev_imul (pc := 113) dX0_countWays_113 ?_
  refine ev_iadd (pc := 114) dX0_countWays_114 ?_
  refine ev_iastore' (pc := 115) (j := 2) dX0_countWays_115 (by decide) (by decide) (show vp_in _ 7 from (vin_c (by decide))) (by decide) ?_
  refine ev_iinc_5 (pc := 116) (v := 1) dX0_countWays_116 (by decide) (by decide) ?_
  refine ev_goto (pc := 119) (tgt := 78) dX0_countWays_119 (by decide) ?_
  refine ev_iload_5 (pc := 78) dX0_countWays_78 ?_
  refine ev_if_le (pc := 80) (tgt := 122) dX0_countWays_80 (by decide) (fun h80 => by exact absurd h80 (by decide)) (fun h80 => ?_)
  refine ev_aload_n_0 (pc := 83) dX0_countWays_83 ?_
  refine ev_getR (pc := 84) (r := 8) dX0_countWays_84 fl_X0_21 (by decide) (by decide) (by decide) (by decide) ?_
  refine ev_iload_5 (pc := 87) dX0_countWays_87 ?_
  refine ev_aload_n_0 (pc := 89) dX0_countWays_89 ?_
  refine ev_getR (pc := 90) (r := 8) dX0_countWays_90 fl_X0_21 (by decide) (by decide) (by decide) (by decide) ?_
  refine ev_iload_5 (pc := 93) dX0_countWays_93 ?_
  refine ev_iaload' (pc := 95) (j := 1) dX0_countWays_95 (by decide) (by decide) (show vp_in _ 7 from (vin_c (by decide))) (by decide) ?_
  refine ev_bipush (pc := 96) (v := 10) dX0_countWays_96 (by decide) ?_
  refine ev_iload_4 (pc := 98) dX0_countWays_98 ?_
  refine ev_isub (pc := 100) dX0_countWays_100 ?_
  refine ev_imul (pc := 101) dX0_countWays_101 ?_
  refine ev_aload_n_0 (pc := 102) dX0_countWays_102 ?_
  refine ev_getR (pc := 103) (r := 8) dX0_countWays_103 fl_X0_21 (by decide) (by decide) (by decide) (by decide) ?_
  refine ev_iload_5 (pc := 106) dX0_countWays_106 ?_
  refine ev_iconst (pc := 108) (v := 1) dX0_countWays_108 (by decide) ?_
  refine ev_isubc (pc := 109) (v := 0) dX0_countWays_109 (by decide) ?_
  refine ev_iaload' (pc := 110) (j := 0) dX0_countWays_110 (by decide) (by decide) (show vp_in _ 7 from (vin_c (by decide))) (by decide) ?_
  refine ev_iload_4 (pc := 111) dX0_countWays_111 ?_
  refine ev_imul (pc := 113) dX0_countWays_113 ?_
  refine ev_iadd (pc := 114) dX0_countWays_114 ?_
  refine ev_iastore' (pc := 115) (j := 1) dX0_countWays_115 (by decide) (by decide) (show vp_in _ 7 from (vin_c (by decide))) (by decide) ?_
  refine ev_iinc_5 (pc := 116) (v := 0) dX0_countWays_116 (by decide) (by decide) ?_
  refine ev_goto (pc := 119) (tgt := 78) dX0_countWays_119 (by decide) ?_
  refine ev_iload_5 (pc := 78) dX0_countWays_78 ?_
  refine ev_if_le (pc := 80) (tgt := 122) dX0_countWays_80 (by decide) (fun h80 => ?_) (fun h80 => by exact absurd h80 (by decide))
  refine ev_aload_n_0 (pc := 122) dX0_countWays_122 ?_
  refine ev_getR (pc := 123) (r := 8) dX0_countWays_123 fl_X0_21 (by decide) (by decide) (by decide) (by decide) ?_
  refine ev_iconst (pc := 126) (v := 0) dX0_countWays_126 (by decide) ?_
  refine ev_dup2 (pc := 127) dX0_countWays_127 rfl rfl ?_
  refine ev_iaload' (pc := 128) (j := 0) dX0_countWays_128 (by decide) (by decide) (show vp_in _ 7 from (vin_c (by decide))) (by decide) ?_
  refine ev_bipush (pc := 129) (v := 10) dX0_countWays_129 (by decide) ?_
  refine ev_iload_4 (pc := 131) dX0_countWays_131 ?_
  refine ev_isub (pc := 133) dX0_countWays_133 ?_
  refine ev_imul (pc := 134) dX0_countWays_134 ?_
  refine ev_iastore' (pc := 135) (j := 0) dX0_countWays_135 (by decide) (by decide) (show vp_in _ 7 from (vin_c (by decide))) (by decide) ?_
  refine ev_iinc_3 (pc := 136) (v := 6) dX0_countWays_136 (by decide) (by decide) ?_
  refine ev_goto (pc := 139) (tgt := 17) dX0_countWays_139 (by decide) ?_
  refine ev_null_4 (ev_null_5 ?_)
  refine ev_eq rfl rfl ?_ K
  refine Prod.ext (funext fun k => funext fun j => ?_) rfl
  by_cases hk : k = 8
  · subst hk
    rcases j with _ | _ | _ | _ | _ | _ | _ | j <;> simp [wr, rowSet, cwStep]
  · simp [wr, rowSet, hk]
theorem b2_X0_countWays {S : Scr} (x c : Int32) (b : Nat) (hb : b < 6) (w : Nat → Int32) (σ : Sto) {Q : Option Value → Sto → Prop} (K : Ev S RX0 cX0_countWays 6 none 2 17 [.ref 5, .ref 40, .int x, .int (nI (b + 1)), .null, .null] [] (rowSet σ 8 (cwStep c b w)) (Q)) : Ev S RX0 cX0_countWays 6 none 2 73 [.ref 5, .ref 40, .int x, .int (nI b), .int c, .null] [] (rowSet σ 8 w) (Q) := by
  match b, hb with
  | 0, _ => exact b2_X0_countWays_0 x c w σ K
  | 1, _ => exact b2_X0_countWays_1 x c w σ K
  | 2, _ => exact b2_X0_countWays_2 x c w σ K
  | 3, _ => exact b2_X0_countWays_3 x c w σ K
  | 4, _ => exact b2_X0_countWays_4 x c w σ K
  | 5, _ => exact b2_X0_countWays_5 x c w σ K
theorem m_X0_countWays {S : Scr} (n : Nat) (hn : n ≤ 6) (x : Int32) (σ : Sto) (hm : σ.1 5 1 = nI n) : Mt S yX0_countWays cX0_countWays 6 none 2 [.ref 5, .ref 40, .int x] σ (Is none (rowSet σ 8 (cwF σ x n))) := by
  refine mt_of (ls := [.ref 5, .ref 40, .int x, .null, .null, .null]) (by decide) rfl (Nat.le_of_ble_eq_true rfl) (by simp [Value.category]) ?_
  refine ev_aload_n_0 (pc := 0) dX0_countWays_0 ?_
  refine ev_getR (pc := 1) (r := 8) dX0_countWays_1 fl_X0_21 (by decide) (by decide) (by decide) (by decide) ?_
  refine ev_iconst (pc := 4) (v := 0) dX0_countWays_4 (by decide) ?_
  refine ev_callS0 (pc := 5) dX0_countWays_5 ml_X0_105 (m_J_fill (n := 7) ⟨by decide, by decide, by decide⟩ (by decide) 0 σ) rfl (by decide) rfl (Nat.le_of_ble_eq_true rfl) ?_
  refine ev_aload_n_0 (pc := 8) dX0_countWays_8 ?_
  refine ev_getR (pc := 9) (r := 8) dX0_countWays_9 fl_X0_21 (by decide) (by decide) (by decide) (by decide) ?_
  refine ev_iconst (pc := 12) (v := 0) dX0_countWays_12 (by decide) ?_
  refine ev_iconst (pc := 13) (v := 1) dX0_countWays_13 (by decide) ?_
  refine ev_iastore' (pc := 14) (j := 0) dX0_countWays_14 (by decide) (by decide) (show vp_in _ 7 from (vin_c (by decide))) (by decide) ?_
  refine ev_iconst (pc := 15) (v := 0) dX0_countWays_15 (by decide) ?_
  refine ev_istore_n_3 (pc := 16) dX0_countWays_16 (by decide) ?_
  refine ev_eq (σ' := rowSet σ 8 (fun j => if j = 0 then 1 else if j < 7 then 0 else σ.1 8 j)) rfl rfl (by
    refine Prod.ext (funext fun k => funext fun j => ?_) rfl
    by_cases hk : k = 8
    · subst hk
      by_cases hj : j = 0 <;> simp [wr, flW, rowSet, hj]
    · simp [wr, flW, rowSet, hk]) ?_
  have hc : ∀ (w : Nat → Int32) (b : Nat), b < 6 → calmA (rowSet σ 8 w) x b = calmA σ x b := by
    intro w b hb
    unfold calmA
    rw [rowSet_ne (by omega), rowSet_ne (by omega), rowSet_ne (by omega)]
  refine for_up n (fun i w => Ev S RX0 cX0_countWays 6 none 2 17 [.ref 5, .ref 40, .int x, .int (nI i), .null, .null] [] (rowSet σ 8 w) (Is none (rowSet σ 8 (cwF σ x n)))) (fun b w => cwStep (calmA σ x b) b w) (fun i w hi K => b1_X0_countWays n hn x i hi _ (by rw [rowSet_ne (by decide)]; exact hm) (by rw [hc w i (by omega)]; exact b2_X0_countWays x _ i (by omega) w σ K)) _ ?_
  have hm : ∀ w, (rowSet σ 8 w).1 5 1 = nI n := fun w => by rw [rowSet_ne (by decide)]; exact hm
  refine ev_iload_n_3 (pc := 17) dX0_countWays_17 ?_
  refine ev_aload_n_0 (pc := 18) dX0_countWays_18 ?_
  refine ev_getI (pc := 19) dX0_countWays_19 fl_X0_31 (by decide) (by decide) (by decide) ?_
  refine ev_icmp_ge (pc := 22) (tgt := 142) dX0_countWays_22 (by decide) (fun h22 => ?_) (fun h22 => by exact absurd (by rw [hm]; exact nI_le (Nat.le_refl n) (by omega)) h22)
  exact ev_return (pc := 142) dX0_countWays_142 rfl (⟨rfl, rfl⟩)
def wfD (f : Nat → Int32) (k : Nat) : Int32 := itN (fun i a => a + f (k + i)) (7 - k) 0
set_option maxRecDepth 100000 in
theorem m_X0_waysFrom_0 {S : Scr}  (σ : Sto) : Mt S yX0_waysFrom cX0_waysFrom 4 (some .int) 0 [.ref 5, .int 0] σ (Is (some (.int (wfD (σ.1 8) 0))) σ) := by
  refine mt_of (ls := [.ref 5, .int 0, .null, .null]) (by decide) rfl (Nat.le_of_ble_eq_true rfl) (by simp [Value.category]) ?_
  refine ev_iconst (pc := 0) (v := 0) dX0_waysFrom_0 (by decide) ?_
  refine ev_istore_n_2 (pc := 1) dX0_waysFrom_1 (by decide) ?_
  refine ev_iload_n_1 (pc := 2) dX0_waysFrom_2 ?_
  refine ev_istore_n_3 (pc := 3) dX0_waysFrom_3 (by decide) ?_
  refine ev_iload_n_3 (pc := 4) dX0_waysFrom_4 ?_
  refine ev_bipush (pc := 5) (v := 6) dX0_waysFrom_5 (by decide) ?_
  refine ev_icmp_gt (pc := 7) (tgt := 25) dX0_waysFrom_7 (by decide) (fun h7 => by exact absurd h7 (by decide)) (fun h7 => ?_)
  refine ev_iload_n_2 (pc := 10) dX0_waysFrom_10 ?_
  refine ev_aload_n_0 (pc := 11) dX0_waysFrom_11 ?_
  refine ev_getR (pc := 12) (r := 8) dX0_waysFrom_12 fl_X0_21 (by decide) (by decide) (by decide) (by decide) ?_
  refine ev_iload_n_3 (pc := 15) dX0_waysFrom_15 ?_
  refine ev_iaload' (pc := 16) (j := 0) dX0_waysFrom_16 (by decide) (by decide) (show vp_in _ 7 from (vin_c (by decide))) (by decide) ?_
  refine ev_iadd (pc := 17) dX0_waysFrom_17 ?_
  refine ev_istore_n_2 (pc := 18) dX0_waysFrom_18 (by decide) ?_
  refine ev_iinc_3 (pc := 19) (v := 1) dX0_waysFrom_19 (by decide) (by decide) ?_
  refine ev_goto (pc := 22) (tgt := 4) dX0_waysFrom_22 (by decide) ?_
  refine ev_iload_n_3 (pc := 4) dX0_waysFrom_4 ?_
  refine ev_bipush (pc := 5) (v := 6) dX0_waysFrom_5 (by decide) ?_
  refine ev_icmp_gt (pc := 7) (tgt := 25) dX0_waysFrom_7 (by decide) (fun h7 => by exact absurd h7 (by decide)) (fun h7 => ?_)
  refine ev_iload_n_2 (pc := 10) dX0_waysFrom_10 ?_
  refine ev_aload_n_0 (pc := 11) dX0_waysFrom_11 ?_
  refine ev_getR (pc := 12) (r := 8) dX0_waysFrom_12 fl_X0_21 (by decide) (by decide) (by decide) (by decide) ?_
  refine ev_iload_n_3 (pc := 15) dX0_waysFrom_15 ?_
  refine ev_iaload' (pc := 16) (j := 1) dX0_waysFrom_16 (by decide) (by decide) (show vp_in _ 7 from (vin_c (by decide))) (by decide) ?_
  refine ev_iadd (pc := 17) dX0_waysFrom_17 ?_
  refine ev_istore_n_2 (pc := 18) dX0_waysFrom_18 (by decide) ?_
  refine ev_iinc_3 (pc := 19) (v := 2) dX0_waysFrom_19 (by decide) (by decide) ?_
  refine ev_goto (pc := 22) (tgt := 4) dX0_waysFrom_22 (by decide) ?_
  refine ev_iload_n_3 (pc := 4) dX0_waysFrom_4 ?_
  refine ev_bipush (pc := 5) (v := 6) dX0_waysFrom_5 (by decide) ?_
  refine ev_icmp_gt (pc := 7) (tgt := 25) dX0_waysFrom_7 (by decide) (fun h7 => by exact absurd h7 (by decide)) (fun h7 => ?_)
  refine ev_iload_n_2 (pc := 10) dX0_waysFrom_10 ?_
  refine ev_aload_n_0 (pc := 11) dX0_waysFrom_11 ?_
  refine ev_getR (pc := 12) (r := 8) dX0_waysFrom_12 fl_X0_21 (by decide) (by decide) (by decide) (by decide) ?_
  refine ev_iload_n_3 (pc := 15) dX0_waysFrom_15 ?_
  refine ev_iaload' (pc := 16) (j := 2) dX0_waysFrom_16 (by decide) (by decide) (show vp_in _ 7 from (vin_c (by decide))) (by decide) ?_
  refine ev_iadd (pc := 17) dX0_waysFrom_17 ?_
  refine ev_istore_n_2 (pc := 18) dX0_waysFrom_18 (by decide) ?_
  refine ev_iinc_3 (pc := 19) (v := 3) dX0_waysFrom_19 (by decide) (by decide) ?_
  refine ev_goto (pc := 22) (tgt := 4) dX0_waysFrom_22 (by decide) ?_
  refine ev_iload_n_3 (pc := 4) dX0_waysFrom_4 ?_
  refine ev_bipush (pc := 5) (v := 6) dX0_waysFrom_5 (by decide) ?_
  refine ev_icmp_gt (pc := 7) (tgt := 25) dX0_waysFrom_7 (by decide) (fun h7 => by exact absurd h7 (by decide)) (fun h7 => ?_)
  refine ev_iload_n_2 (pc := 10) dX0_waysFrom_10 ?_
  refine ev_aload_n_0 (pc := 11) dX0_waysFrom_11 ?_
  refine ev_getR (pc := 12) (r := 8) dX0_waysFrom_12 fl_X0_21 (by decide) (by decide) (by decide) (by decide) ?_
  refine ev_iload_n_3 (pc := 15) dX0_waysFrom_15 ?_
  refine ev_iaload' (pc := 16) (j := 3) dX0_waysFrom_16 (by decide) (by decide) (show vp_in _ 7 from (vin_c (by decide))) (by decide) ?_
  refine ev_iadd (pc := 17) dX0_waysFrom_17 ?_
  refine ev_istore_n_2 (pc := 18) dX0_waysFrom_18 (by decide) ?_
  refine ev_iinc_3 (pc := 19) (v := 4) dX0_waysFrom_19 (by decide) (by decide) ?_
  refine ev_goto (pc := 22) (tgt := 4) dX0_waysFrom_22 (by decide) ?_
  refine ev_iload_n_3 (pc := 4) dX0_waysFrom_4 ?_
  refine ev_bipush (pc := 5) (v := 6) dX0_waysFrom_5 (by decide) ?_
  refine ev_icmp_gt (pc := 7) (tgt := 25) dX0_waysFrom_7 (by decide) (fun h7 => by exact absurd h7 (by decide)) (fun h7 => ?_)
  refine ev_iload_n_2 (pc := 10) dX0_waysFrom_10 ?_
  refine ev_aload_n_0 (pc := 11) dX0_waysFrom_11 ?_
  refine ev_getR (pc := 12) (r := 8) dX0_waysFrom_12 fl_X0_21 (by decide) (by decide) (by decide) (by decide) ?_
  refine ev_iload_n_3 (pc := 15) dX0_waysFrom_15 ?_
  refine ev_iaload' (pc := 16) (j := 4) dX0_waysFrom_16 (by decide) (by decide) (show vp_in _ 7 from (vin_c (by decide))) (by decide) ?_
  refine ev_iadd (pc := 17) dX0_waysFrom_17 ?_
  refine ev_istore_n_2 (pc := 18) dX0_waysFrom_18 (by decide) ?_
  refine ev_iinc_3 (pc := 19) (v := 5) dX0_waysFrom_19 (by decide) (by decide) ?_
  refine ev_goto (pc := 22) (tgt := 4) dX0_waysFrom_22 (by decide) ?_
  refine ev_iload_n_3 (pc := 4) dX0_waysFrom_4 ?_
  refine ev_bipush (pc := 5) (v := 6) dX0_waysFrom_5 (by decide) ?_
  refine ev_icmp_gt (pc := 7) (tgt := 25) dX0_waysFrom_7 (by decide) (fun h7 => by exact absurd h7 (by decide)) (fun h7 => ?_)
  refine ev_iload_n_2 (pc := 10) dX0_waysFrom_10 ?_
  refine ev_aload_n_0 (pc := 11) dX0_waysFrom_11 ?_
  refine ev_getR (pc := 12) (r := 8) dX0_waysFrom_12 fl_X0_21 (by decide) (by decide) (by decide) (by decide) ?_
  refine ev_iload_n_3 (pc := 15) dX0_waysFrom_15 ?_
  refine ev_iaload' (pc := 16) (j := 5) dX0_waysFrom_16 (by decide) (by decide) (show vp_in _ 7 from (vin_c (by decide))) (by decide) ?_
  refine ev_iadd (pc := 17) dX0_waysFrom_17 ?_
  refine ev_istore_n_2 (pc := 18) dX0_waysFrom_18 (by decide) ?_
  refine ev_iinc_3 (pc := 19) (v := 6) dX0_waysFrom_19 (by decide) (by decide) ?_
  refine ev_goto (pc := 22) (tgt := 4) dX0_waysFrom_22 (by decide) ?_
  refine ev_iload_n_3 (pc := 4) dX0_waysFrom_4 ?_
  refine ev_bipush (pc := 5) (v := 6) dX0_waysFrom_5 (by decide) ?_
  refine ev_icmp_gt (pc := 7) (tgt := 25) dX0_waysFrom_7 (by decide) (fun h7 => by exact absurd h7 (by decide)) (fun h7 => ?_)
  refine ev_iload_n_2 (pc := 10) dX0_waysFrom_10 ?_
  refine ev_aload_n_0 (pc := 11) dX0_waysFrom_11 ?_
  refine ev_getR (pc := 12) (r := 8) dX0_waysFrom_12 fl_X0_21 (by decide) (by decide) (by decide) (by decide) ?_
  refine ev_iload_n_3 (pc := 15) dX0_waysFrom_15 ?_
  refine ev_iaload' (pc := 16) (j := 6) dX0_waysFrom_16 (by decide) (by decide) (show vp_in _ 7 from (vin_c (by decide))) (by decide) ?_
  refine ev_iadd (pc := 17) dX0_waysFrom_17 ?_
  refine ev_istore_n_2 (pc := 18) dX0_waysFrom_18 (by decide) ?_
  refine ev_iinc_3 (pc := 19) (v := 7) dX0_waysFrom_19 (by decide) (by decide) ?_
  refine ev_goto (pc := 22) (tgt := 4) dX0_waysFrom_22 (by decide) ?_
  refine ev_iload_n_3 (pc := 4) dX0_waysFrom_4 ?_
  refine ev_bipush (pc := 5) (v := 6) dX0_waysFrom_5 (by decide) ?_
  refine ev_icmp_gt (pc := 7) (tgt := 25) dX0_waysFrom_7 (by decide) (fun h7 => ?_) (fun h7 => by exact absurd h7 (by decide))
  refine ev_iload_n_2 (pc := 25) dX0_waysFrom_25 ?_
  exact ev_ireturn (pc := 26) dX0_waysFrom_26 rfl rfl (⟨rfl, rfl⟩)
set_option maxRecDepth 100000 in
theorem m_X0_waysFrom_1 {S : Scr}  (σ : Sto) : Mt S yX0_waysFrom cX0_waysFrom 4 (some .int) 0 [.ref 5, .int 1] σ (Is (some (.int (wfD (σ.1 8) 1))) σ) := by
  refine mt_of (ls := [.ref 5, .int 1, .null, .null]) (by decide) rfl (Nat.le_of_ble_eq_true rfl) (by simp [Value.category]) ?_
  refine ev_iconst (pc := 0) (v := 0) dX0_waysFrom_0 (by decide) ?_
  refine ev_istore_n_2 (pc := 1) dX0_waysFrom_1 (by decide) ?_
  refine ev_iload_n_1 (pc := 2) dX0_waysFrom_2 ?_
  refine ev_istore_n_3 (pc := 3) dX0_waysFrom_3 (by decide) ?_
  refine ev_iload_n_3 (pc := 4) dX0_waysFrom_4 ?_
  refine ev_bipush (pc := 5) (v := 6) dX0_waysFrom_5 (by decide) ?_
  refine ev_icmp_gt (pc := 7) (tgt := 25) dX0_waysFrom_7 (by decide) (fun h7 => by exact absurd h7 (by decide)) (fun h7 => ?_)
  refine ev_iload_n_2 (pc := 10) dX0_waysFrom_10 ?_
  refine ev_aload_n_0 (pc := 11) dX0_waysFrom_11 ?_
  refine ev_getR (pc := 12) (r := 8) dX0_waysFrom_12 fl_X0_21 (by decide) (by decide) (by decide) (by decide) ?_
  refine ev_iload_n_3 (pc := 15) dX0_waysFrom_15 ?_
  refine ev_iaload' (pc := 16) (j := 1) dX0_waysFrom_16 (by decide) (by decide) (show vp_in _ 7 from (vin_c (by decide))) (by decide) ?_
  refine ev_iadd (pc := 17) dX0_waysFrom_17 ?_
  refine ev_istore_n_2 (pc := 18) dX0_waysFrom_18 (by decide) ?_
  refine ev_iinc_3 (pc := 19) (v := 2) dX0_waysFrom_19 (by decide) (by decide) ?_
  refine ev_goto (pc := 22) (tgt := 4) dX0_waysFrom_22 (by decide) ?_
  refine ev_iload_n_3 (pc := 4) dX0_waysFrom_4 ?_
  refine ev_bipush (pc := 5) (v := 6) dX0_waysFrom_5 (by decide) ?_
  refine ev_icmp_gt (pc := 7) (tgt := 25) dX0_waysFrom_7 (by decide) (fun h7 => by exact absurd h7 (by decide)) (fun h7 => ?_)
  refine ev_iload_n_2 (pc := 10) dX0_waysFrom_10 ?_
  refine ev_aload_n_0 (pc := 11) dX0_waysFrom_11 ?_
  refine ev_getR (pc := 12) (r := 8) dX0_waysFrom_12 fl_X0_21 (by decide) (by decide) (by decide) (by decide) ?_
  refine ev_iload_n_3 (pc := 15) dX0_waysFrom_15 ?_
  refine ev_iaload' (pc := 16) (j := 2) dX0_waysFrom_16 (by decide) (by decide) (show vp_in _ 7 from (vin_c (by decide))) (by decide) ?_
  refine ev_iadd (pc := 17) dX0_waysFrom_17 ?_
  refine ev_istore_n_2 (pc := 18) dX0_waysFrom_18 (by decide) ?_
  refine ev_iinc_3 (pc := 19) (v := 3) dX0_waysFrom_19 (by decide) (by decide) ?_
  refine ev_goto (pc := 22) (tgt := 4) dX0_waysFrom_22 (by decide) ?_
  refine ev_iload_n_3 (pc := 4) dX0_waysFrom_4 ?_
  refine ev_bipush (pc := 5) (v := 6) dX0_waysFrom_5 (by decide) ?_
  refine ev_icmp_gt (pc := 7) (tgt := 25) dX0_waysFrom_7 (by decide) (fun h7 => by exact absurd h7 (by decide)) (fun h7 => ?_)
  refine ev_iload_n_2 (pc := 10) dX0_waysFrom_10 ?_
  refine ev_aload_n_0 (pc := 11) dX0_waysFrom_11 ?_
  refine ev_getR (pc := 12) (r := 8) dX0_waysFrom_12 fl_X0_21 (by decide) (by decide) (by decide) (by decide) ?_
  refine ev_iload_n_3 (pc := 15) dX0_waysFrom_15 ?_
  refine ev_iaload' (pc := 16) (j := 3) dX0_waysFrom_16 (by decide) (by decide) (show vp_in _ 7 from (vin_c (by decide))) (by decide) ?_
  refine ev_iadd (pc := 17) dX0_waysFrom_17 ?_
  refine ev_istore_n_2 (pc := 18) dX0_waysFrom_18 (by decide) ?_
  refine ev_iinc_3 (pc := 19) (v := 4) dX0_waysFrom_19 (by decide) (by decide) ?_
  refine ev_goto (pc := 22) (tgt := 4) dX0_waysFrom_22 (by decide) ?_
  refine ev_iload_n_3 (pc := 4) dX0_waysFrom_4 ?_
  refine ev_bipush (pc := 5) (v := 6) dX0_waysFrom_5 (by decide) ?_
  refine ev_icmp_gt (pc := 7) (tgt := 25) dX0_waysFrom_7 (by decide) (fun h7 => by exact absurd h7 (by decide)) (fun h7 => ?_)
  refine ev_iload_n_2 (pc := 10) dX0_waysFrom_10 ?_
  refine ev_aload_n_0 (pc := 11) dX0_waysFrom_11 ?_
  refine ev_getR (pc := 12) (r := 8) dX0_waysFrom_12 fl_X0_21 (by decide) (by decide) (by decide) (by decide) ?_
  refine ev_iload_n_3 (pc := 15) dX0_waysFrom_15 ?_
  refine ev_iaload' (pc := 16) (j := 4) dX0_waysFrom_16 (by decide) (by decide) (show vp_in _ 7 from (vin_c (by decide))) (by decide) ?_
  refine ev_iadd (pc := 17) dX0_waysFrom_17 ?_
  refine ev_istore_n_2 (pc := 18) dX0_waysFrom_18 (by decide) ?_
  refine ev_iinc_3 (pc := 19) (v := 5) dX0_waysFrom_19 (by decide) (by decide) ?_
  refine ev_goto (pc := 22) (tgt := 4) dX0_waysFrom_22 (by decide) ?_
  refine ev_iload_n_3 (pc := 4) dX0_waysFrom_4 ?_
  refine ev_bipush (pc := 5) (v := 6) dX0_waysFrom_5 (by decide) ?_
  refine ev_icmp_gt (pc := 7) (tgt := 25) dX0_waysFrom_7 (by decide) (fun h7 => by exact absurd h7 (by decide)) (fun h7 => ?_)
  refine ev_iload_n_2 (pc := 10) dX0_waysFrom_10 ?_
  refine ev_aload_n_0 (pc := 11) dX0_waysFrom_11 ?_
  refine ev_getR (pc := 12) (r := 8) dX0_waysFrom_12 fl_X0_21 (by decide) (by decide) (by decide) (by decide) ?_
  refine ev_iload_n_3 (pc := 15) dX0_waysFrom_15 ?_
  refine ev_iaload' (pc := 16) (j := 5) dX0_waysFrom_16 (by decide) (by decide) (show vp_in _ 7 from (vin_c (by decide))) (by decide) ?_
  refine ev_iadd (pc := 17) dX0_waysFrom_17 ?_
  refine ev_istore_n_2 (pc := 18) dX0_waysFrom_18 (by decide) ?_
  refine ev_iinc_3 (pc := 19) (v := 6) dX0_waysFrom_19 (by decide) (by decide) ?_
  refine ev_goto (pc := 22) (tgt := 4) dX0_waysFrom_22 (by decide) ?_
  refine ev_iload_n_3 (pc := 4) dX0_waysFrom_4 ?_
  refine ev_bipush (pc := 5) (v := 6) dX0_waysFrom_5 (by decide) ?_
  refine ev_icmp_gt (pc := 7) (tgt := 25) dX0_waysFrom_7 (by decide) (fun h7 => by exact absurd h7 (by decide)) (fun h7 => ?_)
  refine ev_iload_n_2 (pc := 10) dX0_waysFrom_10 ?_
  refine ev_aload_n_0 (pc := 11) dX0_waysFrom_11 ?_
  refine ev_getR (pc := 12) (r := 8) dX0_waysFrom_12 fl_X0_21 (by decide) (by decide) (by decide) (by decide) ?_
  refine ev_iload_n_3 (pc := 15) dX0_waysFrom_15 ?_
  refine ev_iaload' (pc := 16) (j := 6) dX0_waysFrom_16 (by decide) (by decide) (show vp_in _ 7 from (vin_c (by decide))) (by decide) ?_
  refine ev_iadd (pc := 17) dX0_waysFrom_17 ?_
  refine ev_istore_n_2 (pc := 18) dX0_waysFrom_18 (by decide) ?_
  refine ev_iinc_3 (pc := 19) (v := 7) dX0_waysFrom_19 (by decide) (by decide) ?_
  refine ev_goto (pc := 22) (tgt := 4) dX0_waysFrom_22 (by decide) ?_
  refine ev_iload_n_3 (pc := 4) dX0_waysFrom_4 ?_
  refine ev_bipush (pc := 5) (v := 6) dX0_waysFrom_5 (by decide) ?_
  refine ev_icmp_gt (pc := 7) (tgt := 25) dX0_waysFrom_7 (by decide) (fun h7 => ?_) (fun h7 => by exact absurd h7 (by decide))
  refine ev_iload_n_2 (pc := 25) dX0_waysFrom_25 ?_
  exact ev_ireturn (pc := 26) dX0_waysFrom_26 rfl rfl (⟨rfl, rfl⟩)
set_option maxRecDepth 100000 in
theorem m_X0_waysFrom_2 {S : Scr}  (σ : Sto) : Mt S yX0_waysFrom cX0_waysFrom 4 (some .int) 0 [.ref 5, .int 2] σ (Is (some (.int (wfD (σ.1 8) 2))) σ) := by
  refine mt_of (ls := [.ref 5, .int 2, .null, .null]) (by decide) rfl (Nat.le_of_ble_eq_true rfl) (by simp [Value.category]) ?_
  refine ev_iconst (pc := 0) (v := 0) dX0_waysFrom_0 (by decide) ?_
  refine ev_istore_n_2 (pc := 1) dX0_waysFrom_1 (by decide) ?_
  refine ev_iload_n_1 (pc := 2) dX0_waysFrom_2 ?_
  refine ev_istore_n_3 (pc := 3) dX0_waysFrom_3 (by decide) ?_
  refine ev_iload_n_3 (pc := 4) dX0_waysFrom_4 ?_
  refine ev_bipush (pc := 5) (v := 6) dX0_waysFrom_5 (by decide) ?_
  refine ev_icmp_gt (pc := 7) (tgt := 25) dX0_waysFrom_7 (by decide) (fun h7 => by exact absurd h7 (by decide)) (fun h7 => ?_)
  refine ev_iload_n_2 (pc := 10) dX0_waysFrom_10 ?_
  refine ev_aload_n_0 (pc := 11) dX0_waysFrom_11 ?_
  refine ev_getR (pc := 12) (r := 8) dX0_waysFrom_12 fl_X0_21 (by decide) (by decide) (by decide) (by decide) ?_
  refine ev_iload_n_3 (pc := 15) dX0_waysFrom_15 ?_
  refine ev_iaload' (pc := 16) (j := 2) dX0_waysFrom_16 (by decide) (by decide) (show vp_in _ 7 from (vin_c (by decide))) (by decide) ?_
  refine ev_iadd (pc := 17) dX0_waysFrom_17 ?_
  refine ev_istore_n_2 (pc := 18) dX0_waysFrom_18 (by decide) ?_
  refine ev_iinc_3 (pc := 19) (v := 3) dX0_waysFrom_19 (by decide) (by decide) ?_
  refine ev_goto (pc := 22) (tgt := 4) dX0_waysFrom_22 (by decide) ?_
  refine ev_iload_n_3 (pc := 4) dX0_waysFrom_4 ?_
  refine ev_bipush (pc := 5) (v := 6) dX0_waysFrom_5 (by decide) ?_
  refine ev_icmp_gt (pc := 7) (tgt := 25) dX0_waysFrom_7 (by decide) (fun h7 => by exact absurd h7 (by decide)) (fun h7 => ?_)
  refine ev_iload_n_2 (pc := 10) dX0_waysFrom_10 ?_
  refine ev_aload_n_0 (pc := 11) dX0_waysFrom_11 ?_
  refine ev_getR (pc := 12) (r := 8) dX0_waysFrom_12 fl_X0_21 (by decide) (by decide) (by decide) (by decide) ?_
  refine ev_iload_n_3 (pc := 15) dX0_waysFrom_15 ?_
  refine ev_iaload' (pc := 16) (j := 3) dX0_waysFrom_16 (by decide) (by decide) (show vp_in _ 7 from (vin_c (by decide))) (by decide) ?_
  refine ev_iadd (pc := 17) dX0_waysFrom_17 ?_
  refine ev_istore_n_2 (pc := 18) dX0_waysFrom_18 (by decide) ?_
  refine ev_iinc_3 (pc := 19) (v := 4) dX0_waysFrom_19 (by decide) (by decide) ?_
  refine ev_goto (pc := 22) (tgt := 4) dX0_waysFrom_22 (by decide) ?_
  refine ev_iload_n_3 (pc := 4) dX0_waysFrom_4 ?_
  refine ev_bipush (pc := 5) (v := 6) dX0_waysFrom_5 (by decide) ?_
  refine ev_icmp_gt (pc := 7) (tgt := 25) dX0_waysFrom_7 (by decide) (fun h7 => by exact absurd h7 (by decide)) (fun h7 => ?_)
  refine ev_iload_n_2 (pc := 10) dX0_waysFrom_10 ?_
  refine ev_aload_n_0 (pc := 11) dX0_waysFrom_11 ?_
  refine ev_getR (pc := 12) (r := 8) dX0_waysFrom_12 fl_X0_21 (by decide) (by decide) (by decide) (by decide) ?_
  refine ev_iload_n_3 (pc := 15) dX0_waysFrom_15 ?_
  refine ev_iaload' (pc := 16) (j := 4) dX0_waysFrom_16 (by decide) (by decide) (show vp_in _ 7 from (vin_c (by decide))) (by decide) ?_
  refine ev_iadd (pc := 17) dX0_waysFrom_17 ?_
  refine ev_istore_n_2 (pc := 18) dX0_waysFrom_18 (by decide) ?_
  refine ev_iinc_3 (pc := 19) (v := 5) dX0_waysFrom_19 (by decide) (by decide) ?_
  refine ev_goto (pc := 22) (tgt := 4) dX0_waysFrom_22 (by decide) ?_
  refine ev_iload_n_3 (pc := 4) dX0_waysFrom_4 ?_
  refine ev_bipush (pc := 5) (v := 6) dX0_waysFrom_5 (by decide) ?_
  refine ev_icmp_gt (pc := 7) (tgt := 25) dX0_waysFrom_7 (by decide) (fun h7 => by exact absurd h7 (by decide)) (fun h7 => ?_)
  refine ev_iload_n_2 (pc := 10) dX0_waysFrom_10 ?_
  refine ev_aload_n_0 (pc := 11) dX0_waysFrom_11 ?_
  refine ev_getR (pc := 12) (r := 8) dX0_waysFrom_12 fl_X0_21 (by decide) (by decide) (by decide) (by decide) ?_
  refine ev_iload_n_3 (pc := 15) dX0_waysFrom_15 ?_
  refine ev_iaload' (pc := 16) (j := 5) dX0_waysFrom_16 (by decide) (by decide) (show vp_in _ 7 from (vin_c (by decide))) (by decide) ?_
  refine ev_iadd (pc := 17) dX0_waysFrom_17 ?_
  refine ev_istore_n_2 (pc := 18) dX0_waysFrom_18 (by decide) ?_
  refine ev_iinc_3 (pc := 19) (v := 6) dX0_waysFrom_19 (by decide) (by decide) ?_
  refine ev_goto (pc := 22) (tgt := 4) dX0_waysFrom_22 (by decide) ?_
  refine ev_iload_n_3 (pc := 4) dX0_waysFrom_4 ?_
  refine ev_bipush (pc := 5) (v := 6) dX0_waysFrom_5 (by decide) ?_
  refine ev_icmp_gt (pc := 7) (tgt := 25) dX0_waysFrom_7 (by decide) (fun h7 => by exact absurd h7 (by decide)) (fun h7 => ?_)
  refine ev_iload_n_2 (pc := 10) dX0_waysFrom_10 ?_
  refine ev_aload_n_0 (pc := 11) dX0_waysFrom_11 ?_
  refine ev_getR (pc := 12) (r := 8) dX0_waysFrom_12 fl_X0_21 (by decide) (by decide) (by decide) (by decide) ?_
  refine ev_iload_n_3 (pc := 15) dX0_waysFrom_15 ?_
  refine ev_iaload' (pc := 16) (j := 6) dX0_waysFrom_16 (by decide) (by decide) (show vp_in _ 7 from (vin_c (by decide))) (by decide) ?_
  refine ev_iadd (pc := 17) dX0_waysFrom_17 ?_
  refine ev_istore_n_2 (pc := 18) dX0_waysFrom_18 (by decide) ?_
  refine ev_iinc_3 (pc := 19) (v := 7) dX0_waysFrom_19 (by decide) (by decide) ?_
  refine ev_goto (pc := 22) (tgt := 4) dX0_waysFrom_22 (by decide) ?_
  refine ev_iload_n_3 (pc := 4) dX0_waysFrom_4 ?_
  refine ev_bipush (pc := 5) (v := 6) dX0_waysFrom_5 (by decide) ?_
  refine ev_icmp_gt (pc := 7) (tgt := 25) dX0_waysFrom_7 (by decide) (fun h7 => ?_) (fun h7 => by exact absurd h7 (by decide))
  refine ev_iload_n_2 (pc := 25) dX0_waysFrom_25 ?_
  exact ev_ireturn (pc := 26) dX0_waysFrom_26 rfl rfl (⟨rfl, rfl⟩)
set_option maxRecDepth 100000 in
theorem m_X0_waysFrom_3 {S : Scr}  (σ : Sto) : Mt S yX0_waysFrom cX0_waysFrom 4 (some .int) 0 [.ref 5, .int 3] σ (Is (some (.int (wfD (σ.1 8) 3))) σ) := by
  refine mt_of (ls := [.ref 5, .int 3, .null, .null]) (by decide) rfl (Nat.le_of_ble_eq_true rfl) (by simp [Value.category]) ?_
  refine ev_iconst (pc := 0) (v := 0) dX0_waysFrom_0 (by decide) ?_
  refine ev_istore_n_2 (pc := 1) dX0_waysFrom_1 (by decide) ?_
  refine ev_iload_n_1 (pc := 2) dX0_waysFrom_2 ?_
  refine ev_istore_n_3 (pc := 3) dX0_waysFrom_3 (by decide) ?_
  refine ev_iload_n_3 (pc := 4) dX0_waysFrom_4 ?_
  refine ev_bipush (pc := 5) (v := 6) dX0_waysFrom_5 (by decide) ?_
  refine ev_icmp_gt (pc := 7) (tgt := 25) dX0_waysFrom_7 (by decide) (fun h7 => by exact absurd h7 (by decide)) (fun h7 => ?_)
  refine ev_iload_n_2 (pc := 10) dX0_waysFrom_10 ?_
  refine ev_aload_n_0 (pc := 11) dX0_waysFrom_11 ?_
  refine ev_getR (pc := 12) (r := 8) dX0_waysFrom_12 fl_X0_21 (by decide) (by decide) (by decide) (by decide) ?_
  refine ev_iload_n_3 (pc := 15) dX0_waysFrom_15 ?_
  refine ev_iaload' (pc := 16) (j := 3) dX0_waysFrom_16 (by decide) (by decide) (show vp_in _ 7 from (vin_c (by decide))) (by decide) ?_
  refine ev_iadd (pc := 17) dX0_waysFrom_17 ?_
  refine ev_istore_n_2 (pc := 18) dX0_waysFrom_18 (by decide) ?_
  refine ev_iinc_3 (pc := 19) (v := 4) dX0_waysFrom_19 (by decide) (by decide) ?_
  refine ev_goto (pc := 22) (tgt := 4) dX0_waysFrom_22 (by decide) ?_
  refine ev_iload_n_3 (pc := 4) dX0_waysFrom_4 ?_
  refine ev_bipush (pc := 5) (v := 6) dX0_waysFrom_5 (by decide) ?_
  refine ev_icmp_gt (pc := 7) (tgt := 25) dX0_waysFrom_7 (by decide) (fun h7 => by exact absurd h7 (by decide)) (fun h7 => ?_)
  refine ev_iload_n_2 (pc := 10) dX0_waysFrom_10 ?_
  refine ev_aload_n_0 (pc := 11) dX0_waysFrom_11 ?_
  refine ev_getR (pc := 12) (r := 8) dX0_waysFrom_12 fl_X0_21 (by decide) (by decide) (by decide) (by decide) ?_
  refine ev_iload_n_3 (pc := 15) dX0_waysFrom_15 ?_
  refine ev_iaload' (pc := 16) (j := 4) dX0_waysFrom_16 (by decide) (by decide) (show vp_in _ 7 from (vin_c (by decide))) (by decide) ?_
  refine ev_iadd (pc := 17) dX0_waysFrom_17 ?_
  refine ev_istore_n_2 (pc := 18) dX0_waysFrom_18 (by decide) ?_
  refine ev_iinc_3 (pc := 19) (v := 5) dX0_waysFrom_19 (by decide) (by decide) ?_
  refine ev_goto (pc := 22) (tgt := 4) dX0_waysFrom_22 (by decide) ?_
  refine ev_iload_n_3 (pc := 4) dX0_waysFrom_4 ?_
  refine ev_bipush (pc := 5) (v := 6) dX0_waysFrom_5 (by decide) ?_
  refine ev_icmp_gt (pc := 7) (tgt := 25) dX0_waysFrom_7 (by decide) (fun h7 => by exact absurd h7 (by decide)) (fun h7 => ?_)
  refine ev_iload_n_2 (pc := 10) dX0_waysFrom_10 ?_
  refine ev_aload_n_0 (pc := 11) dX0_waysFrom_11 ?_
  refine ev_getR (pc := 12) (r := 8) dX0_waysFrom_12 fl_X0_21 (by decide) (by decide) (by decide) (by decide) ?_
  refine ev_iload_n_3 (pc := 15) dX0_waysFrom_15 ?_
  refine ev_iaload' (pc := 16) (j := 5) dX0_waysFrom_16 (by decide) (by decide) (show vp_in _ 7 from (vin_c (by decide))) (by decide) ?_
  refine ev_iadd (pc := 17) dX0_waysFrom_17 ?_
  refine ev_istore_n_2 (pc := 18) dX0_waysFrom_18 (by decide) ?_
  refine ev_iinc_3 (pc := 19) (v := 6) dX0_waysFrom_19 (by decide) (by decide) ?_
  refine ev_goto (pc := 22) (tgt := 4) dX0_waysFrom_22 (by decide) ?_
  refine ev_iload_n_3 (pc := 4) dX0_waysFrom_4 ?_
  refine ev_bipush (pc := 5) (v := 6) dX0_waysFrom_5 (by decide) ?_
  refine ev_icmp_gt (pc := 7) (tgt := 25) dX0_waysFrom_7 (by decide) (fun h7 => by exact absurd h7 (by decide)) (fun h7 => ?_)
  refine ev_iload_n_2 (pc := 10) dX0_waysFrom_10 ?_
  refine ev_aload_n_0 (pc := 11) dX0_waysFrom_11 ?_
  refine ev_getR (pc := 12) (r := 8) dX0_waysFrom_12 fl_X0_21 (by decide) (by decide) (by decide) (by decide) ?_
  refine ev_iload_n_3 (pc := 15) dX0_waysFrom_15 ?_
  refine ev_iaload' (pc := 16) (j := 6) dX0_waysFrom_16 (by decide) (by decide) (show vp_in _ 7 from (vin_c (by decide))) (by decide) ?_
  refine ev_iadd (pc := 17) dX0_waysFrom_17 ?_
  refine ev_istore_n_2 (pc := 18) dX0_waysFrom_18 (by decide) ?_
  refine ev_iinc_3 (pc := 19) (v := 7) dX0_waysFrom_19 (by decide) (by decide) ?_
  refine ev_goto (pc := 22) (tgt := 4) dX0_waysFrom_22 (by decide) ?_
  refine ev_iload_n_3 (pc := 4) dX0_waysFrom_4 ?_
  refine ev_bipush (pc := 5) (v := 6) dX0_waysFrom_5 (by decide) ?_
  refine ev_icmp_gt (pc := 7) (tgt := 25) dX0_waysFrom_7 (by decide) (fun h7 => ?_) (fun h7 => by exact absurd h7 (by decide))
  refine ev_iload_n_2 (pc := 25) dX0_waysFrom_25 ?_
  exact ev_ireturn (pc := 26) dX0_waysFrom_26 rfl rfl (⟨rfl, rfl⟩)
set_option maxRecDepth 100000 in
theorem m_X0_waysFrom_4 {S : Scr}  (σ : Sto) : Mt S yX0_waysFrom cX0_waysFrom 4 (some .int) 0 [.ref 5, .int 4] σ (Is (some (.int (wfD (σ.1 8) 4))) σ) := by
  refine mt_of (ls := [.ref 5, .int 4, .null, .null]) (by decide) rfl (Nat.le_of_ble_eq_true rfl) (by simp [Value.category]) ?_
  refine ev_iconst (pc := 0) (v := 0) dX0_waysFrom_0 (by decide) ?_
  refine ev_istore_n_2 (pc := 1) dX0_waysFrom_1 (by decide) ?_
  refine ev_iload_n_1 (pc := 2) dX0_waysFrom_2 ?_
  refine ev_istore_n_3 (pc := 3) dX0_waysFrom_3 (by decide) ?_
  refine ev_iload_n_3 (pc := 4) dX0_waysFrom_4 ?_
  refine ev_bipush (pc := 5) (v := 6) dX0_waysFrom_5 (by decide) ?_
  refine ev_icmp_gt (pc := 7) (tgt := 25) dX0_waysFrom_7 (by decide) (fun h7 => by exact absurd h7 (by decide)) (fun h7 => ?_)
  refine ev_iload_n_2 (pc := 10) dX0_waysFrom_10 ?_
  refine ev_aload_n_0 (pc := 11) dX0_waysFrom_11 ?_
  refine ev_getR (pc := 12) (r := 8) dX0_waysFrom_12 fl_X0_21 (by decide) (by decide) (by decide) (by decide) ?_
  refine ev_iload_n_3 (pc := 15) dX0_waysFrom_15 ?_
  refine ev_iaload' (pc := 16) (j := 4) dX0_waysFrom_16 (by decide) (by decide) (show vp_in _ 7 from (vin_c (by decide))) (by decide) ?_
  refine ev_iadd (pc := 17) dX0_waysFrom_17 ?_
  refine ev_istore_n_2 (pc := 18) dX0_waysFrom_18 (by decide) ?_
  refine ev_iinc_3 (pc := 19) (v := 5) dX0_waysFrom_19 (by decide) (by decide) ?_
  refine ev_goto (pc := 22) (tgt := 4) dX0_waysFrom_22 (by decide) ?_
  refine ev_iload_n_3 (pc := 4) dX0_waysFrom_4 ?_
  refine ev_bipush (pc := 5) (v := 6) dX0_waysFrom_5 (by decide) ?_
  refine ev_icmp_gt (pc := 7) (tgt := 25) dX0_waysFrom_7 (by decide) (fun h7 => by exact absurd h7 (by decide)) (fun h7 => ?_)
  refine ev_iload_n_2 (pc := 10) dX0_waysFrom_10 ?_
  refine ev_aload_n_0 (pc := 11) dX0_waysFrom_11 ?_
  refine ev_getR (pc := 12) (r := 8) dX0_waysFrom_12 fl_X0_21 (by decide) (by decide) (by decide) (by decide) ?_
  refine ev_iload_n_3 (pc := 15) dX0_waysFrom_15 ?_
  refine ev_iaload' (pc := 16) (j := 5) dX0_waysFrom_16 (by decide) (by decide) (show vp_in _ 7 from (vin_c (by decide))) (by decide) ?_
  refine ev_iadd (pc := 17) dX0_waysFrom_17 ?_
  refine ev_istore_n_2 (pc := 18) dX0_waysFrom_18 (by decide) ?_
  refine ev_iinc_3 (pc := 19) (v := 6) dX0_waysFrom_19 (by decide) (by decide) ?_
  refine ev_goto (pc := 22) (tgt := 4) dX0_waysFrom_22 (by decide) ?_
  refine ev_iload_n_3 (pc := 4) dX0_waysFrom_4 ?_
  refine ev_bipush (pc := 5) (v := 6) dX0_waysFrom_5 (by decide) ?_
  refine ev_icmp_gt (pc := 7) (tgt := 25) dX0_waysFrom_7 (by decide) (fun h7 => by exact absurd h7 (by decide)) (fun h7 => ?_)
  refine ev_iload_n_2 (pc := 10) dX0_waysFrom_10 ?_
  refine ev_aload_n_0 (pc := 11) dX0_waysFrom_11 ?_
  refine ev_getR (pc := 12) (r := 8) dX0_waysFrom_12 fl_X0_21 (by decide) (by decide) (by decide) (by decide) ?_
  refine ev_iload_n_3 (pc := 15) dX0_waysFrom_15 ?_
  refine ev_iaload' (pc := 16) (j := 6) dX0_waysFrom_16 (by decide) (by decide) (show vp_in _ 7 from (vin_c (by decide))) (by decide) ?_
  refine ev_iadd (pc := 17) dX0_waysFrom_17 ?_
  refine ev_istore_n_2 (pc := 18) dX0_waysFrom_18 (by decide) ?_
  refine ev_iinc_3 (pc := 19) (v := 7) dX0_waysFrom_19 (by decide) (by decide) ?_
  refine ev_goto (pc := 22) (tgt := 4) dX0_waysFrom_22 (by decide) ?_
  refine ev_iload_n_3 (pc := 4) dX0_waysFrom_4 ?_
  refine ev_bipush (pc := 5) (v := 6) dX0_waysFrom_5 (by decide) ?_
  refine ev_icmp_gt (pc := 7) (tgt := 25) dX0_waysFrom_7 (by decide) (fun h7 => ?_) (fun h7 => by exact absurd h7 (by decide))
  refine ev_iload_n_2 (pc := 25) dX0_waysFrom_25 ?_
  exact ev_ireturn (pc := 26) dX0_waysFrom_26 rfl rfl (⟨rfl, rfl⟩)
set_option maxRecDepth 100000 in
theorem m_X0_waysFrom_5 {S : Scr}  (σ : Sto) : Mt S yX0_waysFrom cX0_waysFrom 4 (some .int) 0 [.ref 5, .int 5] σ (Is (some (.int (wfD (σ.1 8) 5))) σ) := by
  refine mt_of (ls := [.ref 5, .int 5, .null, .null]) (by decide) rfl (Nat.le_of_ble_eq_true rfl) (by simp [Value.category]) ?_
  refine ev_iconst (pc := 0) (v := 0) dX0_waysFrom_0 (by decide) ?_
  refine ev_istore_n_2 (pc := 1) dX0_waysFrom_1 (by decide) ?_
  refine ev_iload_n_1 (pc := 2) dX0_waysFrom_2 ?_
  refine ev_istore_n_3 (pc := 3) dX0_waysFrom_3 (by decide) ?_
  refine ev_iload_n_3 (pc := 4) dX0_waysFrom_4 ?_
  refine ev_bipush (pc := 5) (v := 6) dX0_waysFrom_5 (by decide) ?_
  refine ev_icmp_gt (pc := 7) (tgt := 25) dX0_waysFrom_7 (by decide) (fun h7 => by exact absurd h7 (by decide)) (fun h7 => ?_)
  refine ev_iload_n_2 (pc := 10) dX0_waysFrom_10 ?_
  refine ev_aload_n_0 (pc := 11) dX0_waysFrom_11 ?_
  refine ev_getR (pc := 12) (r := 8) dX0_waysFrom_12 fl_X0_21 (by decide) (by decide) (by decide) (by decide) ?_
  refine ev_iload_n_3 (pc := 15) dX0_waysFrom_15 ?_
  refine ev_iaload' (pc := 16) (j := 5) dX0_waysFrom_16 (by decide) (by decide) (show vp_in _ 7 from (vin_c (by decide))) (by decide) ?_
  refine ev_iadd (pc := 17) dX0_waysFrom_17 ?_
  refine ev_istore_n_2 (pc := 18) dX0_waysFrom_18 (by decide) ?_
  refine ev_iinc_3 (pc := 19) (v := 6) dX0_waysFrom_19 (by decide) (by decide) ?_
  refine ev_goto (pc := 22) (tgt := 4) dX0_waysFrom_22 (by decide) ?_
  refine ev_iload_n_3 (pc := 4) dX0_waysFrom_4 ?_
  refine ev_bipush (pc := 5) (v := 6) dX0_waysFrom_5 (by decide) ?_
  refine ev_icmp_gt (pc := 7) (tgt := 25) dX0_waysFrom_7 (by decide) (fun h7 => by exact absurd h7 (by decide)) (fun h7 => ?_)
  refine ev_iload_n_2 (pc := 10) dX0_waysFrom_10 ?_
  refine ev_aload_n_0 (pc := 11) dX0_waysFrom_11 ?_
  refine ev_getR (pc := 12) (r := 8) dX0_waysFrom_12 fl_X0_21 (by decide) (by decide) (by decide) (by decide) ?_
  refine ev_iload_n_3 (pc := 15) dX0_waysFrom_15 ?_
  refine ev_iaload' (pc := 16) (j := 6) dX0_waysFrom_16 (by decide) (by decide) (show vp_in _ 7 from (vin_c (by decide))) (by decide) ?_
  refine ev_iadd (pc := 17) dX0_waysFrom_17 ?_
  refine ev_istore_n_2 (pc := 18) dX0_waysFrom_18 (by decide) ?_
  refine ev_iinc_3 (pc := 19) (v := 7) dX0_waysFrom_19 (by decide) (by decide) ?_
  refine ev_goto (pc := 22) (tgt := 4) dX0_waysFrom_22 (by decide) ?_
  refine ev_iload_n_3 (pc := 4) dX0_waysFrom_4 ?_
  refine ev_bipush (pc := 5) (v := 6) dX0_waysFrom_5 (by decide) ?_
  refine ev_icmp_gt (pc := 7) (tgt := 25) dX0_waysFrom_7 (by decide) (fun h7 => ?_) (fun h7 => by exact absurd h7 (by decide))
  refine ev_iload_n_2 (pc := 25) dX0_waysFrom_25 ?_
  exact ev_ireturn (pc := 26) dX0_waysFrom_26 rfl rfl (⟨rfl, rfl⟩)
set_option maxRecDepth 100000 in
theorem m_X0_waysFrom_6 {S : Scr}  (σ : Sto) : Mt S yX0_waysFrom cX0_waysFrom 4 (some .int) 0 [.ref 5, .int 6] σ (Is (some (.int (wfD (σ.1 8) 6))) σ) := by
  refine mt_of (ls := [.ref 5, .int 6, .null, .null]) (by decide) rfl (Nat.le_of_ble_eq_true rfl) (by simp [Value.category]) ?_
  refine ev_iconst (pc := 0) (v := 0) dX0_waysFrom_0 (by decide) ?_
  refine ev_istore_n_2 (pc := 1) dX0_waysFrom_1 (by decide) ?_
  refine ev_iload_n_1 (pc := 2) dX0_waysFrom_2 ?_
  refine ev_istore_n_3 (pc := 3) dX0_waysFrom_3 (by decide) ?_
  refine ev_iload_n_3 (pc := 4) dX0_waysFrom_4 ?_
  refine ev_bipush (pc := 5) (v := 6) dX0_waysFrom_5 (by decide) ?_
  refine ev_icmp_gt (pc := 7) (tgt := 25) dX0_waysFrom_7 (by decide) (fun h7 => by exact absurd h7 (by decide)) (fun h7 => ?_)
  refine ev_iload_n_2 (pc := 10) dX0_waysFrom_10 ?_
  refine ev_aload_n_0 (pc := 11) dX0_waysFrom_11 ?_
  refine ev_getR (pc := 12) (r := 8) dX0_waysFrom_12 fl_X0_21 (by decide) (by decide) (by decide) (by decide) ?_
  refine ev_iload_n_3 (pc := 15) dX0_waysFrom_15 ?_
  refine ev_iaload' (pc := 16) (j := 6) dX0_waysFrom_16 (by decide) (by decide) (show vp_in _ 7 from (vin_c (by decide))) (by decide) ?_
  refine ev_iadd (pc := 17) dX0_waysFrom_17 ?_
  refine ev_istore_n_2 (pc := 18) dX0_waysFrom_18 (by decide) ?_
  refine ev_iinc_3 (pc := 19) (v := 7) dX0_waysFrom_19 (by decide) (by decide) ?_
  refine ev_goto (pc := 22) (tgt := 4) dX0_waysFrom_22 (by decide) ?_
  refine ev_iload_n_3 (pc := 4) dX0_waysFrom_4 ?_
  refine ev_bipush (pc := 5) (v := 6) dX0_waysFrom_5 (by decide) ?_
  refine ev_icmp_gt (pc := 7) (tgt := 25) dX0_waysFrom_7 (by decide) (fun h7 => ?_) (fun h7 => by exact absurd h7 (by decide))
  refine ev_iload_n_2 (pc := 25) dX0_waysFrom_25 ?_
  exact ev_ireturn (pc := 26) dX0_waysFrom_26 rfl rfl (⟨rfl, rfl⟩)
theorem m_X0_waysFrom {S : Scr} (k : Nat) (hk : k < 7) (σ : Sto) : Mt S yX0_waysFrom cX0_waysFrom 4 (some .int) 0 [.ref 5, .int (nI k)] σ (Is (some (.int (wfD (σ.1 8) k))) σ) := by
  match k, hk with
  | 0, _ => exact m_X0_waysFrom_0 σ
  | 1, _ => exact m_X0_waysFrom_1 σ
  | 2, _ => exact m_X0_waysFrom_2 σ
  | 3, _ => exact m_X0_waysFrom_3 σ
  | 4, _ => exact m_X0_waysFrom_4 σ
  | 5, _ => exact m_X0_waysFrom_5 σ
  | 6, _ => exact m_X0_waysFrom_6 σ
def rm (x p : Int32) : Int32 := x - x / p * p
def redI (p : Int32) : Nat → Int32 × Int32 → Int32 × Int32
  | 0, a => a
  | k + 1, a => if rm a.1 p = 0 ∧ rm a.2 p = 0 then redI p k (a.1 / p, a.2 / p) else a
def iltD (u l w : Int32) : Int32 := if w = 0 then (redI 5 6 (redI 2 6 (u, l))).1 else (redI 5 6 (redI 2 6 (u, l))).2
set_option maxRecDepth 100000 in
theorem b_inLeast2 {S : Scr} (u l w : Int32) (t : Nat) (ht : t < 6) (a : Int32 × Int32) (σ : Sto) {Q : Option Value → Sto → Prop} (K1 : rm a.1 2 = 0 ∧ rm a.2 2 = 0 → Ev S RX7 cX7_inLeastTerms 6 (some .int) 0 8 [.int u, .int l, .int w, .int ((a.1 / 2, a.2 / 2) : Int32 × Int32).1, .int ((a.1 / 2, a.2 / 2) : Int32 × Int32).2, .int (nI (t + 1))] [] σ (Q)) (K2 : ¬ (rm a.1 2 = 0 ∧ rm a.2 2 = 0) → Ev S RX7 cX7_inLeastTerms 6 (some .int) 0 44 [.int u, .int l, .int w, .int a.1, .int a.2, .null] [] σ (Q)) : Ev S RX7 cX7_inLeastTerms 6 (some .int) 0 8 [.int u, .int l, .int w, .int a.1, .int a.2, .int (nI t)] [] σ (Q) := by
  refine ev_iload_5 (pc := 8) dX7_inLeastTerms_8 ?_
  refine ev_bipush (pc := 10) (v := 6) dX7_inLeastTerms_10 (by decide) ?_
  refine ev_icmp_ge (pc := 12) (tgt := 44) dX7_inLeastTerms_12 (by decide) (fun h12 => by exact absurd h12 (nI_ge ht (by decide))) (fun h12 => ?_)
  refine ev_iload_n_3 (pc := 15) dX7_inLeastTerms_15 ?_
  refine ev_iconst (pc := 16) (v := 2) dX7_inLeastTerms_16 (by decide) ?_
  refine ev_irem (pc := 17) dX7_inLeastTerms_17 (by decide) ?_
  refine ev_if_ne (pc := 18) (tgt := 44) dX7_inLeastTerms_18 (by decide) (fun h18 => ?_) (fun h18 => ?_)
  · skip
    refine ev_null_5 ?_
    exact K2 (fun q => h18 q.1)
  · skip
    refine ev_iload_4 (pc := 21) dX7_inLeastTerms_21 ?_
    refine ev_iconst (pc := 23) (v := 2) dX7_inLeastTerms_23 (by decide) ?_
    refine ev_irem (pc := 24) dX7_inLeastTerms_24 (by decide) ?_
    refine ev_if_ne (pc := 25) (tgt := 44) dX7_inLeastTerms_25 (by decide) (fun h25 => ?_) (fun h25 => ?_)
    · skip
      refine ev_null_5 ?_
      exact K2 (fun q => h25 q.2)
    · skip
      refine ev_iload_n_3 (pc := 28) dX7_inLeastTerms_28 ?_
      refine ev_iconst (pc := 29) (v := 2) dX7_inLeastTerms_29 (by decide) ?_
      refine ev_idiv (pc := 30) dX7_inLeastTerms_30 (by decide) ?_
      refine ev_istore_n_3 (pc := 31) dX7_inLeastTerms_31 (by decide) ?_
      refine ev_iload_4 (pc := 32) dX7_inLeastTerms_32 ?_
      refine ev_iconst (pc := 34) (v := 2) dX7_inLeastTerms_34 (by decide) ?_
      refine ev_idiv (pc := 35) dX7_inLeastTerms_35 (by decide) ?_
      refine ev_istore_4 (pc := 36) dX7_inLeastTerms_36 (by decide) ?_
      refine ev_iinc_5 (pc := 38) (v := nI (t + 1)) dX7_inLeastTerms_38 (nI_inc t) (by decide) ?_
      refine ev_goto (pc := 41) (tgt := 8) dX7_inLeastTerms_41 (by decide) ?_
      exact K1 ⟨h18, h25⟩
theorem l_inLeast2 {S : Scr} (u l w : Int32) (σ : Sto) {Q : Option Value → Sto → Prop} : ∀ (k t : Nat) (a : Int32 × Int32), t + k = 6 → Ev S RX7 cX7_inLeastTerms 6 (some .int) 0 44 [.int u, .int l, .int w, .int (redI 2 k a).1, .int (redI 2 k a).2, .null] [] σ (Q) → Ev S RX7 cX7_inLeastTerms 6 (some .int) 0 8 [.int u, .int l, .int w, .int a.1, .int a.2, .int (nI t)] [] σ (Q) := by
  intro k
  induction k with
  | zero =>
    intro t a ht K
    obtain rfl : t = 6 := by omega
    refine ev_iload_5 (pc := 8) dX7_inLeastTerms_8 ?_
    refine ev_bipush (pc := 10) (v := 6) dX7_inLeastTerms_10 (by decide) ?_
    refine ev_icmp_ge (pc := 12) (tgt := 44) dX7_inLeastTerms_12 (by decide) (fun h12 => ?_) (fun h12 => by exact absurd (by decide) h12)
    refine ev_null_5 ?_
    exact K
  | succ k ih =>
    intro t a ht K
    refine b_inLeast2 u l w t (by omega) a σ (fun hq => ih (t + 1) _ (by omega) ?_) (fun hq => ?_)
    · rw [redI, if_pos hq] at K; exact K
    · rw [redI, if_neg hq] at K; exact K
set_option maxRecDepth 100000 in
theorem b_inLeast5 {S : Scr} (u l w : Int32) (t : Nat) (ht : t < 6) (a : Int32 × Int32) (σ : Sto) {Q : Option Value → Sto → Prop} (K1 : rm a.1 5 = 0 ∧ rm a.2 5 = 0 → Ev S RX7 cX7_inLeastTerms 6 (some .int) 0 47 [.int u, .int l, .int w, .int ((a.1 / 5, a.2 / 5) : Int32 × Int32).1, .int ((a.1 / 5, a.2 / 5) : Int32 × Int32).2, .int (nI (t + 1))] [] σ (Q)) (K2 : ¬ (rm a.1 5 = 0 ∧ rm a.2 5 = 0) → Ev S RX7 cX7_inLeastTerms 6 (some .int) 0 83 [.int u, .int l, .int w, .int a.1, .int a.2, .null] [] σ (Q)) : Ev S RX7 cX7_inLeastTerms 6 (some .int) 0 47 [.int u, .int l, .int w, .int a.1, .int a.2, .int (nI t)] [] σ (Q) := by
  refine ev_iload_5 (pc := 47) dX7_inLeastTerms_47 ?_
  refine ev_bipush (pc := 49) (v := 6) dX7_inLeastTerms_49 (by decide) ?_
  refine ev_icmp_ge (pc := 51) (tgt := 83) dX7_inLeastTerms_51 (by decide) (fun h51 => by exact absurd h51 (nI_ge ht (by decide))) (fun h51 => ?_)
  refine ev_iload_n_3 (pc := 54) dX7_inLeastTerms_54 ?_
  refine ev_iconst (pc := 55) (v := 5) dX7_inLeastTerms_55 (by decide) ?_
  refine ev_irem (pc := 56) dX7_inLeastTerms_56 (by decide) ?_
  refine ev_if_ne (pc := 57) (tgt := 83) dX7_inLeastTerms_57 (by decide) (fun h57 => ?_) (fun h57 => ?_)
  · skip
    refine ev_null_5 ?_
    exact K2 (fun q => h57 q.1)
  · skip
    refine ev_iload_4 (pc := 60) dX7_inLeastTerms_60 ?_
    refine ev_iconst (pc := 62) (v := 5) dX7_inLeastTerms_62 (by decide) ?_
    refine ev_irem (pc := 63) dX7_inLeastTerms_63 (by decide) ?_
    refine ev_if_ne (pc := 64) (tgt := 83) dX7_inLeastTerms_64 (by decide) (fun h64 => ?_) (fun h64 => ?_)
    · skip
      refine ev_null_5 ?_
      exact K2 (fun q => h64 q.2)
    · skip
      refine ev_iload_n_3 (pc := 67) dX7_inLeastTerms_67 ?_
      refine ev_iconst (pc := 68) (v := 5) dX7_inLeastTerms_68 (by decide) ?_
      refine ev_idiv (pc := 69) dX7_inLeastTerms_69 (by decide) ?_
      refine ev_istore_n_3 (pc := 70) dX7_inLeastTerms_70 (by decide) ?_
      refine ev_iload_4 (pc := 71) dX7_inLeastTerms_71 ?_
      refine ev_iconst (pc := 73) (v := 5) dX7_inLeastTerms_73 (by decide) ?_
      refine ev_idiv (pc := 74) dX7_inLeastTerms_74 (by decide) ?_
      refine ev_istore_4 (pc := 75) dX7_inLeastTerms_75 (by decide) ?_
      refine ev_iinc_5 (pc := 77) (v := nI (t + 1)) dX7_inLeastTerms_77 (nI_inc t) (by decide) ?_
      refine ev_goto (pc := 80) (tgt := 47) dX7_inLeastTerms_80 (by decide) ?_
      exact K1 ⟨h57, h64⟩
theorem l_inLeast5 {S : Scr} (u l w : Int32) (σ : Sto) {Q : Option Value → Sto → Prop} : ∀ (k t : Nat) (a : Int32 × Int32), t + k = 6 → Ev S RX7 cX7_inLeastTerms 6 (some .int) 0 83 [.int u, .int l, .int w, .int (redI 5 k a).1, .int (redI 5 k a).2, .null] [] σ (Q) → Ev S RX7 cX7_inLeastTerms 6 (some .int) 0 47 [.int u, .int l, .int w, .int a.1, .int a.2, .int (nI t)] [] σ (Q) := by
  intro k
  induction k with
  | zero =>
    intro t a ht K
    obtain rfl : t = 6 := by omega
    refine ev_iload_5 (pc := 47) dX7_inLeastTerms_47 ?_
    refine ev_bipush (pc := 49) (v := 6) dX7_inLeastTerms_49 (by decide) ?_
    refine ev_icmp_ge (pc := 51) (tgt := 83) dX7_inLeastTerms_51 (by decide) (fun h51 => ?_) (fun h51 => by exact absurd (by decide) h51)
    refine ev_null_5 ?_
    exact K
  | succ k ih =>
    intro t a ht K
    refine b_inLeast5 u l w t (by omega) a σ (fun hq => ih (t + 1) _ (by omega) ?_) (fun hq => ?_)
    · rw [redI, if_pos hq] at K; exact K
    · rw [redI, if_neg hq] at K; exact K
theorem m_X7_inLeastTerms {S : Scr} (u l w : Int32) (σ : Sto) : Mt S yX7_inLeastTerms cX7_inLeastTerms 6 (some .int) 0 [.int u, .int l, .int w] σ (Is (some (.int (iltD u l w))) σ) := by
  refine mt_of (ls := [.int u, .int l, .int w, .null, .null, .null]) (by decide) rfl (Nat.le_of_ble_eq_true rfl) (by simp [Value.category]) ?_
  refine ev_iload_n_0 (pc := 0) dX7_inLeastTerms_0 ?_
  refine ev_istore_n_3 (pc := 1) dX7_inLeastTerms_1 (by decide) ?_
  refine ev_iload_n_1 (pc := 2) dX7_inLeastTerms_2 ?_
  refine ev_istore_4 (pc := 3) dX7_inLeastTerms_3 (by decide) ?_
  refine ev_iconst (pc := 5) (v := 0) dX7_inLeastTerms_5 (by decide) ?_
  refine ev_istore_5 (pc := 6) dX7_inLeastTerms_6 (by decide) ?_
  refine l_inLeast2 u l w σ 6 0 (u, l) rfl ?_
  refine ev_iconst (pc := 44) (v := 0) dX7_inLeastTerms_44 (by decide) ?_
  refine ev_istore_5 (pc := 45) dX7_inLeastTerms_45 (by decide) ?_
  refine l_inLeast5 u l w σ 6 0 _ rfl ?_
  refine ev_iload_n_2 (pc := 83) dX7_inLeastTerms_83 ?_
  refine ev_if_ne (pc := 84) (tgt := 91) dX7_inLeastTerms_84 (by decide) (fun h84 => ?_) (fun h84 => ?_)
  · skip
    refine ev_iload_4 (pc := 91) dX7_inLeastTerms_91 ?_
    exact ev_ireturn (pc := 93) dX7_inLeastTerms_93 rfl rfl (⟨by simp only [iltD, h84, ↓reduceIte], rfl⟩)
  · skip
    refine ev_iload_n_3 (pc := 87) dX7_inLeastTerms_87 ?_
    refine ev_goto (pc := 88) (tgt := 93) dX7_inLeastTerms_88 (by decide) ?_
    exact ev_ireturn (pc := 93) dX7_inLeastTerms_93 rfl rfl (⟨by simp only [iltD, h84, ↓reduceIte], rfl⟩)
