/-! ===== JDK: bitCount, fill ===== -/
def us (x y : Int32) : Int32 := (x.toUInt32 >>> (y.toUInt32 &&& Int32.toUInt32 31)).toInt32
def bc1 (x : Int32) : Int32 := x - (us x 1 &&& 1431655765)
def bc2 (x : Int32) : Int32 := (x &&& 858993459) + (us x 2 &&& 858993459)
def bc3 (x : Int32) : Int32 := (x + us x 4) &&& 252645135
def bc4 (x : Int32) : Int32 := x + us x 8
def bc5 (x : Int32) : Int32 := x + us x 16
def bcD (x : Int32) : Int32 := bc5 (bc4 (bc3 (bc2 (bc1 x)))) &&& 63
set_option maxRecDepth 100000 in
theorem m_J_bitCount {S : Scr} (x : Int32) (σ : Sto) : Mt S yJ6_bitCount_0f7a4 cJ6_bitCount_0f7a4 1 (some .int) 0 [.int x] σ (Is (some (.int (bcD x))) σ) := by
  refine mt_of (ls := [.int x]) (by decide) rfl (Nat.le_of_ble_eq_true rfl) (by simp [Value.category]) ?_
  refine ev_iload_n_0 (pc := 0) dJ6_bitCount_0f7a4_0 ?_
  refine ev_iload_n_0 (pc := 1) dJ6_bitCount_0f7a4_1 ?_
  refine ev_iconst (pc := 2) (v := 1) dJ6_bitCount_0f7a4_2 (by decide) ?_
  refine ev_iushr (pc := 3) dJ6_bitCount_0f7a4_3 rfl ?_
  refine ev_ldcw (pc := 4) dJ6_bitCount_0f7a4_4 k_J6_265 ?_
  refine ev_iand (pc := 7) dJ6_bitCount_0f7a4_7 ?_
  refine ev_isub (pc := 8) dJ6_bitCount_0f7a4_8 ?_
  refine ev_istore_n_0 (pc := 9) dJ6_bitCount_0f7a4_9 (by decide) ?_
  refine ev_iload_n_0 (pc := 10) dJ6_bitCount_0f7a4_10 ?_
  refine ev_ldcw (pc := 11) dJ6_bitCount_0f7a4_11 k_J6_266 ?_
  refine ev_iand (pc := 14) dJ6_bitCount_0f7a4_14 ?_
  refine ev_iload_n_0 (pc := 15) dJ6_bitCount_0f7a4_15 ?_
  refine ev_iconst (pc := 16) (v := 2) dJ6_bitCount_0f7a4_16 (by decide) ?_
  refine ev_iushr (pc := 17) dJ6_bitCount_0f7a4_17 rfl ?_
  refine ev_ldcw (pc := 18) dJ6_bitCount_0f7a4_18 k_J6_266 ?_
  refine ev_iand (pc := 21) dJ6_bitCount_0f7a4_21 ?_
  refine ev_iadd (pc := 22) dJ6_bitCount_0f7a4_22 ?_
  refine ev_istore_n_0 (pc := 23) dJ6_bitCount_0f7a4_23 (by decide) ?_
  refine ev_iload_n_0 (pc := 24) dJ6_bitCount_0f7a4_24 ?_
  refine ev_iload_n_0 (pc := 25) dJ6_bitCount_0f7a4_25 ?_
  refine ev_iconst (pc := 26) (v := 4) dJ6_bitCount_0f7a4_26 (by decide) ?_
  refine ev_iushr (pc := 27) dJ6_bitCount_0f7a4_27 rfl ?_
  refine ev_iadd (pc := 28) dJ6_bitCount_0f7a4_28 ?_
  refine ev_ldcw (pc := 29) dJ6_bitCount_0f7a4_29 k_J6_267 ?_
  refine ev_iand (pc := 32) dJ6_bitCount_0f7a4_32 ?_
  refine ev_istore_n_0 (pc := 33) dJ6_bitCount_0f7a4_33 (by decide) ?_
  refine ev_iload_n_0 (pc := 34) dJ6_bitCount_0f7a4_34 ?_
  refine ev_iload_n_0 (pc := 35) dJ6_bitCount_0f7a4_35 ?_
  refine ev_bipush (pc := 36) (v := 8) dJ6_bitCount_0f7a4_36 (by decide) ?_
  refine ev_iushr (pc := 38) dJ6_bitCount_0f7a4_38 rfl ?_
  refine ev_iadd (pc := 39) dJ6_bitCount_0f7a4_39 ?_
  refine ev_istore_n_0 (pc := 40) dJ6_bitCount_0f7a4_40 (by decide) ?_
  refine ev_iload_n_0 (pc := 41) dJ6_bitCount_0f7a4_41 ?_
  refine ev_iload_n_0 (pc := 42) dJ6_bitCount_0f7a4_42 ?_
  refine ev_bipush (pc := 43) (v := 16) dJ6_bitCount_0f7a4_43 (by decide) ?_
  refine ev_iushr (pc := 45) dJ6_bitCount_0f7a4_45 rfl ?_
  refine ev_iadd (pc := 46) dJ6_bitCount_0f7a4_46 ?_
  refine ev_istore_n_0 (pc := 47) dJ6_bitCount_0f7a4_47 (by decide) ?_
  refine ev_iload_n_0 (pc := 48) dJ6_bitCount_0f7a4_48 ?_
  refine ev_bipush (pc := 49) (v := 63) dJ6_bitCount_0f7a4_49 (by decide) ?_
  refine ev_iand (pc := 51) dJ6_bitCount_0f7a4_51 ?_
  exact ev_ireturn (pc := 52) dJ6_bitCount_0f7a4_52 rfl rfl (⟨rfl, rfl⟩)
def flW (σ : Sto) (a : Nat) (v : Int32) (n : Nat) : Sto := (fun k b => if k = a ∧ b < n then v else σ.1 k b, σ.2)
theorem flW_0 (σ : Sto) (a : Nat) (v : Int32) : flW σ a v 0 = σ := by unfold flW; simp
theorem flW_s (σ : Sto) (a : Nat) (v : Int32) (n : Nat) : wr (flW σ a v n) a n v = flW σ a v (n + 1) := by
  unfold wr flW
  refine Prod.ext (funext fun k => funext fun b => ?_) rfl
  show (if k = a ∧ b = n then v else if k = a ∧ b < n then v else σ.1 k b) = if k = a ∧ b < n + 1 then v else σ.1 k b
  by_cases h : k = a
  · by_cases h2 : b = n
    · simp [h, h2]
    · have e : (b < n + 1) = (b < n) := propext ⟨fun h => by omega, fun h => by omega⟩
      simp [h, h2, e]
  · simp [h]
set_option maxRecDepth 100000 in
theorem b_J_fill {S : Scr} {a n : Nat} (ha : IsA a n) (hn : n < 2000) (v : Int32) (i : Nat) (hi : i < n) (σ : Sto) {Q : Option Value → Sto → Prop} (K : Ev S RJ7 cJ7_fill_53178 4 none 0 5 [.ref a, .int v, .int (nI (i + 1)), .int (nI n)] [] (wr σ a i v) (Q)) : Ev S RJ7 cJ7_fill_53178 4 none 0 5 [.ref a, .int v, .int (nI i), .int (nI n)] [] σ (Q) := by
  refine ev_iload_n_2 (pc := 5) dJ7_fill_53178_5 ?_
  refine ev_iload_n_3 (pc := 6) dJ7_fill_53178_6 ?_
  refine ev_icmp_ge (pc := 7) (tgt := 20) dJ7_fill_53178_7 (by decide) (fun h7 => by exact absurd h7 (nI_ge hi (by omega))) (fun h7 => ?_)
  refine ev_aload_n_0 (pc := 10) dJ7_fill_53178_10 ?_
  refine ev_iload_n_2 (pc := 11) dJ7_fill_53178_11 ?_
  refine ev_iload_n_1 (pc := 12) dJ7_fill_53178_12 ?_
  refine ev_iastore' (pc := 13) (j := i) dJ7_fill_53178_13 ha.1 ha.2.1 (by rw [ha.2.2]; exact (vp_in_nI hi (by omega))) (nI_clamp (by omega)) ?_
  refine ev_iinc_2 (pc := 14) (v := nI (i + 1)) dJ7_fill_53178_14 (nI_inc i) (by decide) ?_
  refine ev_goto (pc := 17) (tgt := 5) dJ7_fill_53178_17 (by decide) ?_
  exact K
theorem l_J_fill {S : Scr} {a n : Nat} (ha : IsA a n) (hn : n < 2000) (v : Int32) (σ : Sto) : Ev S RJ7 cJ7_fill_53178 4 none 0 5 [.ref a, .int v, .int (nI 0), .int (nI n)] [] (flW σ a v 0) (Is none (flW σ a v n)) := by
  refine for_up n (fun i (_ : Unit) => Ev S RJ7 cJ7_fill_53178 4 none 0 5 [.ref a, .int v, .int (nI i), .int (nI n)] [] (flW σ a v i) (Is none (flW σ a v n))) (fun _ u => u) (fun i _ hi K => b_J_fill ha hn v i hi _ (by rw [flW_s]; exact K)) () ?_
  refine ev_iload_n_2 (pc := 5) dJ7_fill_53178_5 ?_
  refine ev_iload_n_3 (pc := 6) dJ7_fill_53178_6 ?_
  refine ev_icmp_ge (pc := 7) (tgt := 20) dJ7_fill_53178_7 (by decide) (fun h7 => ?_) (fun h7 => by exact absurd (nI_le (Nat.le_refl n) (by omega)) h7)
  exact ev_return (pc := 20) dJ7_fill_53178_20 rfl (⟨rfl, rfl⟩)
theorem m_J_fill {S : Scr} {a n : Nat} (ha : IsA a n) (hn : n < 2000) (v : Int32) (σ : Sto) : Mt S yJ7_fill_53178 cJ7_fill_53178 4 none 0 [.ref a, .int v] σ (Is none (flW σ a v n)) := by
  refine mt_of (ls := [.ref a, .int v, .null, .null]) (by decide) rfl (Nat.le_of_ble_eq_true rfl) (by simp [Value.category]) ?_
  refine ev_iconst (pc := 0) (v := 0) dJ7_fill_53178_0 (by decide) ?_
  refine ev_istore_n_2 (pc := 1) dJ7_fill_53178_1 (by decide) ?_
  refine ev_aload_n_0 (pc := 2) dJ7_fill_53178_2 ?_
  refine ev_arraylength (pc := 3) (v := nI n) dJ7_fill_53178_3 ha.1 (c := 10) ha.2.1 (by decide) (by rw [ha.2.2]; rfl) ?_
  refine ev_istore_n_3 (pc := 4) dJ7_fill_53178_4 (by decide) ?_
  have h := l_J_fill (S := S) ha hn v σ
  rw [flW_0] at h
  exact h
/-! ===== the brothers ===== -/
abbrev bit (s : Int32) (b : Nat) : Prop := s >>> (nI b &&& 31) &&& 1 = 1
abbrev mienB (σ : Sto) (S b : Nat) : Int32 := mienD (σ.1 (25 + 2 * b + 1)) (σ.1 (25 + 2 * b) 1) (σ.1 (S + 1)) (σ.1 (S + 2) b)
abbrev mindB (σ : Sto) (S b : Nat) : Int32 := mindD (σ.1 (25 + 2 * b + 1)) (σ.1 (S + 1)) (σ.1 (S + 2) b)
abbrev evry (n : Int32) : Int32 := 1 <<< (n &&& 31) - 1
set_option maxRecDepth 100000 in
theorem m_X0_has {S : Scr} (b : Int32) (σ : Sto) : Mt S yX0_has cX0_has 2 (some .boolean) 0 [.ref 5, .int b] σ (Is (some (.int (bI (¬ b < 0 ∧ b < σ.1 5 1)))) σ) := by
  refine mt_of (ls := [.ref 5, .int b]) (by decide) rfl (Nat.le_of_ble_eq_true rfl) (by simp [Value.category]) ?_
  refine ev_iload_n_1 (pc := 0) dX0_has_0 ?_
  refine ev_if_lt (pc := 1) (tgt := 16) dX0_has_1 (by decide) (fun h1 => ?_) (fun h1 => ?_)
  · skip
    refine ev_iconst (pc := 16) (v := 0) dX0_has_16 (by decide) ?_
    exact ev_ireturn (pc := 17) dX0_has_17 rfl rfl (⟨by simp [bI, h1], rfl⟩)
  · skip
    refine ev_iload_n_1 (pc := 4) dX0_has_4 ?_
    refine ev_aload_n_0 (pc := 5) dX0_has_5 ?_
    refine ev_getI (pc := 6) dX0_has_6 fl_X0_31 (by decide) (by decide) (by decide) ?_
    refine ev_icmp_ge (pc := 9) (tgt := 16) dX0_has_9 (by decide) (fun h9 => ?_) (fun h9 => ?_)
    · skip
      refine ev_iconst (pc := 16) (v := 0) dX0_has_16 (by decide) ?_
      exact ev_ireturn (pc := 17) dX0_has_17 rfl rfl (⟨by simp [bI, h1, h9], rfl⟩)
    · skip
      refine ev_iconst (pc := 12) (v := 1) dX0_has_12 (by decide) ?_
      refine ev_goto (pc := 13) (tgt := 17) dX0_has_13 (by decide) ?_
      exact ev_ireturn (pc := 17) dX0_has_17 rfl rfl (⟨by simp [bI, h1, h9], rfl⟩)
set_option maxRecDepth 100000 in
theorem m_X0_everyone {S : Scr}  (σ : Sto) : Mt S yX0_everyone cX0_everyone 1 (some .int) 0 [.ref 5] σ (Is (some (.int (evry (σ.1 5 1)))) σ) := by
  refine mt_of (ls := [.ref 5]) (by decide) rfl (Nat.le_of_ble_eq_true rfl) (by simp [Value.category]) ?_
  refine ev_iconst (pc := 0) (v := 1) dX0_everyone_0 (by decide) ?_
  refine ev_aload_n_0 (pc := 1) dX0_everyone_1 ?_
  refine ev_getI (pc := 2) dX0_everyone_2 fl_X0_31 (by decide) (by decide) (by decide) ?_
  refine ev_ishl (pc := 5) dX0_everyone_5 ?_
  refine ev_iconst (pc := 6) (v := 1) dX0_everyone_6 (by decide) ?_
  refine ev_isub (pc := 7) dX0_everyone_7 ?_
  exact ev_ireturn (pc := 8) dX0_everyone_8 rfl rfl (⟨rfl, rfl⟩)
set_option maxRecDepth 100000 in
theorem m_X0_mienOf {S : Scr} {C : Nat} (hC : IsSc C) (b : Nat) (hb : b < 6) (σ : Sto) : Mt S yX0_mienOf cX0_mienOf 3 (some .int) 2 [.ref 5, .int (nI b), .ref C] σ (Is (some (.int (mienB σ C b))) σ) := by
  refine mt_of (ls := [.ref 5, .int (nI b), .ref C]) (by decide) rfl (Nat.le_of_ble_eq_true rfl) (by simp [Value.category]) ?_
  refine ev_aload_n_0 (pc := 0) dX0_mienOf_0 ?_
  refine ev_getR (pc := 1) (r := 6) dX0_mienOf_1 fl_X0_11 (by decide) (by decide) (by decide) (by decide) ?_
  refine ev_iload_n_1 (pc := 4) dX0_mienOf_4 ?_
  refine ev_aaload' (pc := 5) (r := (25 + 2 * b)) (j := b) dX0_mienOf_5 (by decide) (c := 14) (by decide) (by decide) (by decide) (show vp_in _ 6 from (vp_in_nI (by omega) (by decide))) (nI_clamp (by omega)) (rf6 b) ?_
  refine ev_aload_n_2 (pc := 6) dX0_mienOf_6 ?_
  refine ev_getR (pc := 7) (r := (C + 1)) dX0_mienOf_7 fl_X0_47 hC.lt hC.kd0 (by decide) (hC.rfj 0) ?_
  refine ev_aload_n_2 (pc := 10) dX0_mienOf_10 ?_
  refine ev_getR (pc := 11) (r := (C + 2)) dX0_mienOf_11 fl_X0_52 hC.lt hC.kd0 (by decide) (hC.rfj 1) ?_
  refine ev_iload_n_1 (pc := 14) dX0_mienOf_14 ?_
  refine ev_iaload' (pc := 15) (j := b) dX0_mienOf_15 hC.lt2 hC.kd2 (by rw [hC.ln2]; exact (vp_in_nI (by omega) (by decide))) (nI_clamp (by omega)) ?_
  refine ev_callV1 (pc := 16) dX0_mienOf_16 ml_X0_55 (m_X5_mien (isTa_of hb) hC.a1 _ σ) (isTa_of hb).lt ⟨_, by rw [(isTa_of hb).kd0]; rfl, rfl⟩ rfl (by decide) rfl (Nat.le_of_ble_eq_true rfl) ?_
  exact ev_ireturn (pc := 19) dX0_mienOf_19 rfl rfl (⟨rfl, rfl⟩)
set_option maxRecDepth 100000 in
theorem m_X0_mindOf {S : Scr} {C : Nat} (hC : IsSc C) (b : Nat) (hb : b < 6) (σ : Sto) : Mt S yX0_mindOf cX0_mindOf 3 (some .int) 2 [.ref 5, .int (nI b), .ref C] σ (Is (some (.int (mindB σ C b))) σ) := by
  refine mt_of (ls := [.ref 5, .int (nI b), .ref C]) (by decide) rfl (Nat.le_of_ble_eq_true rfl) (by simp [Value.category]) ?_
  refine ev_aload_n_0 (pc := 0) dX0_mindOf_0 ?_
  refine ev_getR (pc := 1) (r := 6) dX0_mindOf_1 fl_X0_11 (by decide) (by decide) (by decide) (by decide) ?_
  refine ev_iload_n_1 (pc := 4) dX0_mindOf_4 ?_
  refine ev_aaload' (pc := 5) (r := (25 + 2 * b)) (j := b) dX0_mindOf_5 (by decide) (c := 14) (by decide) (by decide) (by decide) (show vp_in _ 6 from (vp_in_nI (by omega) (by decide))) (nI_clamp (by omega)) (rf6 b) ?_
  refine ev_aload_n_2 (pc := 6) dX0_mindOf_6 ?_
  refine ev_getR (pc := 7) (r := (C + 1)) dX0_mindOf_7 fl_X0_47 hC.lt hC.kd0 (by decide) (hC.rfj 0) ?_
  refine ev_aload_n_2 (pc := 10) dX0_mindOf_10 ?_
  refine ev_getR (pc := 11) (r := (C + 2)) dX0_mindOf_11 fl_X0_52 hC.lt hC.kd0 (by decide) (hC.rfj 1) ?_
  refine ev_iload_n_1 (pc := 14) dX0_mindOf_14 ?_
  refine ev_iaload' (pc := 15) (j := b) dX0_mindOf_15 hC.lt2 hC.kd2 (by rw [hC.ln2]; exact (vp_in_nI (by omega) (by decide))) (nI_clamp (by omega)) ?_
  refine ev_callV1 (pc := 16) dX0_mindOf_16 ml_X0_59 (m_X5_mind (isTa_of hb) hC.a1 _ σ) (isTa_of hb).lt ⟨_, by rw [(isTa_of hb).kd0]; rfl, rfl⟩ rfl (by decide) rfl (Nat.le_of_ble_eq_true rfl) ?_
  exact ev_ireturn (pc := 19) dX0_mindOf_19 rfl rfl (⟨rfl, rfl⟩)
set_option maxRecDepth 100000 in
theorem b_X0_mindOfAll {S : Scr} {C : Nat} (hC : IsSc C) (n : Nat) (hn : n ≤ 6) (b : Nat) (hb : b < n) (a : Int32) (σ : Sto) (hm : σ.1 5 1 = nI n) {Q : Option Value → Sto → Prop} (K : Ev S RX0 cX0_mindOfAll 4 (some .int) 3 4 [.ref 5, .ref C, .int ((fun b a => a + mindB σ C b) b a), .int (nI (b + 1))] [] σ (Q)) : Ev S RX0 cX0_mindOfAll 4 (some .int) 3 4 [.ref 5, .ref C, .int a, .int (nI b)] [] σ (Q) := by
  have hb6 : b < 6 := by omega
  refine ev_iload_n_3 (pc := 4) dX0_mindOfAll_4 ?_
  refine ev_aload_n_0 (pc := 5) dX0_mindOfAll_5 ?_
  refine ev_getI (pc := 6) dX0_mindOfAll_6 fl_X0_31 (by decide) (by decide) (by decide) ?_
  refine ev_icmp_ge (pc := 9) (tgt := 27) dX0_mindOfAll_9 (by decide) (fun h9 => by exact absurd h9 (by rw [hm]; exact nI_ge hb (by omega))) (fun h9 => ?_)
  refine ev_iload_n_2 (pc := 12) dX0_mindOfAll_12 ?_
  refine ev_aload_n_0 (pc := 13) dX0_mindOfAll_13 ?_
  refine ev_iload_n_3 (pc := 14) dX0_mindOfAll_14 ?_
  refine ev_aload_n_1 (pc := 15) dX0_mindOfAll_15 ?_
  refine ev_callV1 (pc := 16) dX0_mindOfAll_16 ml_X0_62 (m_X0_mindOf hC b hb6 σ) (by decide) ⟨_, rfl, rfl⟩ rfl (by decide) rfl (Nat.le_of_ble_eq_true rfl) ?_
  refine ev_iadd (pc := 19) dX0_mindOfAll_19 ?_
  refine ev_istore_n_2 (pc := 20) dX0_mindOfAll_20 (by decide) ?_
  refine ev_iinc_3 (pc := 21) (v := nI (b + 1)) dX0_mindOfAll_21 (nI_inc b) (by decide) ?_
  refine ev_goto (pc := 24) (tgt := 4) dX0_mindOfAll_24 (by decide) ?_
  exact K
theorem m_X0_mindOfAll {S : Scr} {C : Nat} (hC : IsSc C) (n : Nat) (hn : n ≤ 6) (σ : Sto) (hm : σ.1 5 1 = nI n) : Mt S yX0_mindOfAll cX0_mindOfAll 4 (some .int) 3 [.ref 5, .ref C] σ (Is (some (.int (itN (fun b a => a + mindB σ C b) n 0))) σ) := by
  refine mt_of (ls := [.ref 5, .ref C, .null, .null]) (by decide) rfl (Nat.le_of_ble_eq_true rfl) (by simp [Value.category]) ?_
  refine ev_iconst (pc := 0) (v := 0) dX0_mindOfAll_0 (by decide) ?_
  refine ev_istore_n_2 (pc := 1) dX0_mindOfAll_1 (by decide) ?_
  refine ev_iconst (pc := 2) (v := 0) dX0_mindOfAll_2 (by decide) ?_
  refine ev_istore_n_3 (pc := 3) dX0_mindOfAll_3 (by decide) ?_
  refine for_up n (fun i a => Ev S RX0 cX0_mindOfAll 4 (some .int) 3 4 [.ref 5, .ref C, .int a, .int (nI i)] [] σ (Is (some (.int (itN (fun b a => a + mindB σ C b) n 0))) σ)) (fun b a => a + mindB σ C b) (fun i a hi K => b_X0_mindOfAll hC n hn i hi a σ hm K) 0 ?_
  refine ev_iload_n_3 (pc := 4) dX0_mindOfAll_4 ?_
  refine ev_aload_n_0 (pc := 5) dX0_mindOfAll_5 ?_
  refine ev_getI (pc := 6) dX0_mindOfAll_6 fl_X0_31 (by decide) (by decide) (by decide) ?_
  refine ev_icmp_ge (pc := 9) (tgt := 27) dX0_mindOfAll_9 (by decide) (fun h9 => ?_) (fun h9 => by exact absurd (by rw [hm]; exact nI_le (Nat.le_refl n) (by omega)) h9)
  refine ev_iload_n_2 (pc := 27) dX0_mindOfAll_27 ?_
  exact ev_ireturn (pc := 28) dX0_mindOfAll_28 rfl rfl (⟨rfl, rfl⟩)
set_option maxRecDepth 100000 in
theorem b_X0_calmSet {S : Scr} {C : Nat} (hC : IsSc C) (n : Nat) (hn : n ≤ 6) (b : Nat) (hb : b < n) (a : Int32) (σ : Sto) (hm : σ.1 5 1 = nI n) {Q : Option Value → Sto → Prop} (K : Ev S RX0 cX0_calmSet 4 (some .int) 3 4 [.ref 5, .ref C, .int ((fun b a => if mienB σ C b = 0 then a ||| 1 <<< (nI b &&& 31) else a) b a), .int (nI (b + 1))] [] σ (Q)) : Ev S RX0 cX0_calmSet 4 (some .int) 3 4 [.ref 5, .ref C, .int a, .int (nI b)] [] σ (Q) := by
  have hb6 : b < 6 := by omega
  refine ev_iload_n_3 (pc := 4) dX0_calmSet_4 ?_
  refine ev_aload_n_0 (pc := 5) dX0_calmSet_5 ?_
  refine ev_getI (pc := 6) dX0_calmSet_6 fl_X0_31 (by decide) (by decide) (by decide) ?_
  refine ev_icmp_ge (pc := 9) (tgt := 33) dX0_calmSet_9 (by decide) (fun h9 => by exact absurd h9 (by rw [hm]; exact nI_ge hb (by omega))) (fun h9 => ?_)
  refine ev_aload_n_0 (pc := 12) dX0_calmSet_12 ?_
  refine ev_iload_n_3 (pc := 13) dX0_calmSet_13 ?_
  refine ev_aload_n_1 (pc := 14) dX0_calmSet_14 ?_
  refine ev_callV1 (pc := 15) dX0_calmSet_15 ml_X0_66 (m_X0_mienOf hC b hb6 σ) (by decide) ⟨_, rfl, rfl⟩ rfl (by decide) rfl (Nat.le_of_ble_eq_true rfl) ?_
  refine ev_if_ne (pc := 18) (tgt := 27) dX0_calmSet_18 (by decide) (fun h18 => ?_) (fun h18 => ?_)
  · skip
    refine ev_iinc_3 (pc := 27) (v := nI (b + 1)) dX0_calmSet_27 (nI_inc b) (by decide) ?_
    refine ev_goto (pc := 30) (tgt := 4) dX0_calmSet_30 (by decide) ?_
    exact ev_eq (by simp only [h18, ↓reduceIte]) rfl rfl K
  · skip
    refine ev_iload_n_2 (pc := 21) dX0_calmSet_21 ?_
    refine ev_iconst (pc := 22) (v := 1) dX0_calmSet_22 (by decide) ?_
    refine ev_iload_n_3 (pc := 23) dX0_calmSet_23 ?_
    refine ev_ishl (pc := 24) dX0_calmSet_24 ?_
    refine ev_ior (pc := 25) dX0_calmSet_25 ?_
    refine ev_istore_n_2 (pc := 26) dX0_calmSet_26 (by decide) ?_
    refine ev_iinc_3 (pc := 27) (v := nI (b + 1)) dX0_calmSet_27 (nI_inc b) (by decide) ?_
    refine ev_goto (pc := 30) (tgt := 4) dX0_calmSet_30 (by decide) ?_
    exact ev_eq (by simp only [h18, ↓reduceIte]) rfl rfl K
theorem m_X0_calmSet {S : Scr} {C : Nat} (hC : IsSc C) (n : Nat) (hn : n ≤ 6) (σ : Sto) (hm : σ.1 5 1 = nI n) : Mt S yX0_calmSet cX0_calmSet 4 (some .int) 3 [.ref 5, .ref C] σ (Is (some (.int (itN (fun b a => if mienB σ C b = 0 then a ||| 1 <<< (nI b &&& 31) else a) n 0))) σ) := by
  refine mt_of (ls := [.ref 5, .ref C, .null, .null]) (by decide) rfl (Nat.le_of_ble_eq_true rfl) (by simp [Value.category]) ?_
  refine ev_iconst (pc := 0) (v := 0) dX0_calmSet_0 (by decide) ?_
  refine ev_istore_n_2 (pc := 1) dX0_calmSet_1 (by decide) ?_
  refine ev_iconst (pc := 2) (v := 0) dX0_calmSet_2 (by decide) ?_
  refine ev_istore_n_3 (pc := 3) dX0_calmSet_3 (by decide) ?_
  refine for_up n (fun i a => Ev S RX0 cX0_calmSet 4 (some .int) 3 4 [.ref 5, .ref C, .int a, .int (nI i)] [] σ (Is (some (.int (itN (fun b a => if mienB σ C b = 0 then a ||| 1 <<< (nI b &&& 31) else a) n 0))) σ)) (fun b a => if mienB σ C b = 0 then a ||| 1 <<< (nI b &&& 31) else a) (fun i a hi K => b_X0_calmSet hC n hn i hi a σ hm K) 0 ?_
  refine ev_iload_n_3 (pc := 4) dX0_calmSet_4 ?_
  refine ev_aload_n_0 (pc := 5) dX0_calmSet_5 ?_
  refine ev_getI (pc := 6) dX0_calmSet_6 fl_X0_31 (by decide) (by decide) (by decide) ?_
  refine ev_icmp_ge (pc := 9) (tgt := 33) dX0_calmSet_9 (by decide) (fun h9 => ?_) (fun h9 => by exact absurd (by rw [hm]; exact nI_le (Nat.le_refl n) (by omega)) h9)
  refine ev_iload_n_2 (pc := 33) dX0_calmSet_33 ?_
  exact ev_ireturn (pc := 34) dX0_calmSet_34 rfl rfl (⟨rfl, rfl⟩)
abbrev calmB (σ : Sto) (C n : Nat) : Int32 := itN (fun b a => if mienB σ C b = 0 then a ||| 1 <<< (nI b &&& 31) else a) n 0
set_option maxRecDepth 100000 in
theorem m_X0_howManyCalm {S : Scr} {C : Nat} (hC : IsSc C) (n : Nat) (hn : n ≤ 6) (σ : Sto) (hm : σ.1 5 1 = nI n) : Mt S yX0_howManyCalm cX0_howManyCalm 2 (some .int) 4 [.ref 5, .ref C] σ (Is (some (.int (bcD (calmB σ C n)))) σ) := by
  refine mt_of (ls := [.ref 5, .ref C]) (by decide) rfl (Nat.le_of_ble_eq_true rfl) (by simp [Value.category]) ?_
  refine ev_aload_n_0 (pc := 0) dX0_howManyCalm_0 ?_
  refine ev_aload_n_1 (pc := 1) dX0_howManyCalm_1 ?_
  refine ev_callV1 (pc := 2) dX0_howManyCalm_2 ml_X0_69 (m_X0_calmSet hC n hn σ hm) (by decide) ⟨_, rfl, rfl⟩ rfl (by decide) rfl (Nat.le_of_ble_eq_true rfl) ?_
  refine ev_callS1 (pc := 5) dX0_howManyCalm_5 ml_X0_73 (m_J_bitCount _ σ) rfl (by decide) rfl (Nat.le_of_ble_eq_true rfl) ?_
  exact ev_ireturn (pc := 8) dX0_howManyCalm_8 rfl rfl (⟨rfl, rfl⟩)
abbrev allCalm (σ : Sto) (C n : Nat) (s : Int32) : Prop := ∀ b, b < n → bit s b → mienB σ C b = 0
set_option maxRecDepth 100000 in
theorem b_X0_areCalm {S : Scr} {C : Nat} (hC : IsSc C) (n : Nat) (hn : n ≤ 6) (s : Int32) (b : Nat) (hb : b < n) (σ : Sto) (hm : σ.1 5 1 = nI n) {Q : Option Value → Sto → Prop} (K : Ev S RX0 cX0_areCalm 4 (some .boolean) 3 2 [.ref 5, .int s, .ref C, .int (nI (b + 1))] [] σ (Q)) (hN : bit s b → ¬ mienB σ C b = 0 → Q (some (.int 0)) σ) : Ev S RX0 cX0_areCalm 4 (some .boolean) 3 2 [.ref 5, .int s, .ref C, .int (nI b)] [] σ (Q) := by
  have hb6 : b < 6 := by omega
  refine ev_iload_n_3 (pc := 2) dX0_areCalm_2 ?_
  refine ev_aload_n_0 (pc := 3) dX0_areCalm_3 ?_
  refine ev_getI (pc := 4) dX0_areCalm_4 fl_X0_31 (by decide) (by decide) (by decide) ?_
  refine ev_icmp_ge (pc := 7) (tgt := 36) dX0_areCalm_7 (by decide) (fun h7 => by exact absurd h7 (by rw [hm]; exact nI_ge hb (by omega))) (fun h7 => ?_)
  refine ev_iload_n_1 (pc := 10) dX0_areCalm_10 ?_
  refine ev_iload_n_3 (pc := 11) dX0_areCalm_11 ?_
  refine ev_ishr (pc := 12) dX0_areCalm_12 ?_
  refine ev_iconst (pc := 13) (v := 1) dX0_areCalm_13 (by decide) ?_
  refine ev_iand (pc := 14) dX0_areCalm_14 ?_
  refine ev_iconst (pc := 15) (v := 1) dX0_areCalm_15 (by decide) ?_
  refine ev_icmp_ne (pc := 16) (tgt := 30) dX0_areCalm_16 (by decide) (fun h16 => ?_) (fun h16 => ?_)
  · skip
    refine ev_iinc_3 (pc := 30) (v := nI (b + 1)) dX0_areCalm_30 (nI_inc b) (by decide) ?_
    refine ev_goto (pc := 33) (tgt := 2) dX0_areCalm_33 (by decide) ?_
    exact K
  · skip
    refine ev_aload_n_0 (pc := 19) dX0_areCalm_19 ?_
    refine ev_iload_n_3 (pc := 20) dX0_areCalm_20 ?_
    refine ev_aload_n_2 (pc := 21) dX0_areCalm_21 ?_
    refine ev_callV1 (pc := 22) dX0_areCalm_22 ml_X0_66 (m_X0_mienOf hC b hb6 σ) (by decide) ⟨_, rfl, rfl⟩ rfl (by decide) rfl (Nat.le_of_ble_eq_true rfl) ?_
    refine ev_if_eq (pc := 25) (tgt := 30) dX0_areCalm_25 (by decide) (fun h25 => ?_) (fun h25 => ?_)
    · skip
      refine ev_iinc_3 (pc := 30) (v := nI (b + 1)) dX0_areCalm_30 (nI_inc b) (by decide) ?_
      refine ev_goto (pc := 33) (tgt := 2) dX0_areCalm_33 (by decide) ?_
      exact K
    · skip
      refine ev_iconst (pc := 28) (v := 0) dX0_areCalm_28 (by decide) ?_
      exact ev_ireturn (pc := 29) dX0_areCalm_29 rfl rfl (hN h16 h25)
set_option maxRecDepth 100000 in
theorem b_X0_areCalm0 {S : Scr} {C : Nat} (hC : IsSc C) (n : Nat) (hn : n ≤ 6) (s : Int32) (b : Nat) (hb : b < n) (σ : Sto) (hm : σ.1 5 1 = nI n) (hok : ¬ (bit s b → mienB σ C b = 0)) : Ev S RX0 cX0_areCalm 4 (some .boolean) 3 2 [.ref 5, .int s, .ref C, .int (nI b)] [] σ (Is (some (.int 0)) σ) := by
  have hb6 : b < 6 := by omega
  refine ev_iload_n_3 (pc := 2) dX0_areCalm_2 ?_
  refine ev_aload_n_0 (pc := 3) dX0_areCalm_3 ?_
  refine ev_getI (pc := 4) dX0_areCalm_4 fl_X0_31 (by decide) (by decide) (by decide) ?_
  refine ev_icmp_ge (pc := 7) (tgt := 36) dX0_areCalm_7 (by decide) (fun h7 => by exact absurd h7 (by rw [hm]; exact nI_ge hb (by omega))) (fun h7 => ?_)
  refine ev_iload_n_1 (pc := 10) dX0_areCalm_10 ?_
  refine ev_iload_n_3 (pc := 11) dX0_areCalm_11 ?_
  refine ev_ishr (pc := 12) dX0_areCalm_12 ?_
  refine ev_iconst (pc := 13) (v := 1) dX0_areCalm_13 (by decide) ?_
  refine ev_iand (pc := 14) dX0_areCalm_14 ?_
  refine ev_iconst (pc := 15) (v := 1) dX0_areCalm_15 (by decide) ?_
  refine ev_icmp_ne (pc := 16) (tgt := 30) dX0_areCalm_16 (by decide) (fun h16 => by exact absurd (fun q => absurd q h16) hok) (fun h16 => ?_)
  refine ev_aload_n_0 (pc := 19) dX0_areCalm_19 ?_
  refine ev_iload_n_3 (pc := 20) dX0_areCalm_20 ?_
  refine ev_aload_n_2 (pc := 21) dX0_areCalm_21 ?_
  refine ev_callV1 (pc := 22) dX0_areCalm_22 ml_X0_66 (m_X0_mienOf hC b hb6 σ) (by decide) ⟨_, rfl, rfl⟩ rfl (by decide) rfl (Nat.le_of_ble_eq_true rfl) ?_
  refine ev_if_eq (pc := 25) (tgt := 30) dX0_areCalm_25 (by decide) (fun h25 => by exact absurd (fun _ => h25) hok) (fun h25 => ?_)
  refine ev_iconst (pc := 28) (v := 0) dX0_areCalm_28 (by decide) ?_
  exact ev_ireturn (pc := 29) dX0_areCalm_29 rfl rfl (⟨rfl, rfl⟩)
theorem m_X0_areCalm {S : Scr} {C : Nat} (hC : IsSc C) (n : Nat) (hn : n ≤ 6) (s : Int32) (σ : Sto) (hm : σ.1 5 1 = nI n) : Mt S yX0_areCalm cX0_areCalm 4 (some .boolean) 3 [.ref 5, .int s, .ref C] σ (Is (some (.int (bI (allCalm σ C n s)))) σ) := by
  refine mt_of (ls := [.ref 5, .int s, .ref C, .null]) (by decide) rfl (Nat.le_of_ble_eq_true rfl) (by simp [Value.category]) ?_
  refine ev_iconst (pc := 0) (v := 0) dX0_areCalm_0 (by decide) ?_
  refine ev_istore_n_3 (pc := 1) dX0_areCalm_1 (by decide) ?_
  have key : ∀ k i, i + k = n → (∀ b, b < i → bit s b → mienB σ C b = 0) → Ev S RX0 cX0_areCalm 4 (some .boolean) 3 2 [.ref 5, .int s, .ref C, .int (nI i)] [] σ (Is (some (.int (bI (allCalm σ C n s)))) σ) := by
    intro k
    induction k with
    | zero =>
      intro i hi hall
      obtain rfl : i = n := by omega
      have e : bI (allCalm σ C i s) = 1 := bI1.mpr hall
      rw [e]
      refine ev_iload_n_3 (pc := 2) dX0_areCalm_2 ?_
      refine ev_aload_n_0 (pc := 3) dX0_areCalm_3 ?_
      refine ev_getI (pc := 4) dX0_areCalm_4 fl_X0_31 (by decide) (by decide) (by decide) ?_
      refine ev_icmp_ge (pc := 7) (tgt := 36) dX0_areCalm_7 (by decide) (fun h7 => ?_) (fun h7 => by exact absurd (by rw [hm]; exact nI_le (Nat.le_refl i) (by omega)) h7)
      refine ev_iconst (pc := 36) (v := 1) dX0_areCalm_36 (by decide) ?_
      exact ev_ireturn (pc := 37) dX0_areCalm_37 rfl rfl (⟨rfl, rfl⟩)
    | succ k ih =>
      intro i hi hall
      by_cases hok : bit s i → mienB σ C i = 0
      · exact b_X0_areCalm hC n hn s i (by omega) σ hm (ih (i + 1) (by omega) (fun b hb h => by
          rcases Nat.lt_or_ge b i with q | q
          · exact hall b q h
          · obtain rfl : b = i := by omega
            exact hok h)) (fun h1 h2 => absurd (hok h1) h2)
      · have e : bI (allCalm σ C n s) = 0 := bI0.mpr (fun h => hok (h i (by omega)))
        rw [e]
        exact b_X0_areCalm0 hC n hn s i (by omega) σ hm hok
  exact key n 0 (by omega) (fun b hb => absurd hb (Nat.not_lt_zero b))
abbrev mpS (σ : Sto) (C : Nat) (s : Int32) (p : Nat) (m : Int32) : Nat → Int32 → Int32 := fun b a => if bit s b then a + ab (tst p m (σ.1 C b) - σ.1 (25 + 2 * b + 1) p) else a
abbrev mpB (σ : Sto) (C n : Nat) (s : Int32) (p : Nat) (m : Int32) : Int32 := itN (mpS σ C s p m) n 0
set_option maxRecDepth 100000 in
theorem b_X0_mindPart {S : Scr} {C : Nat} (hC : IsA C 6) (n : Nat) (hn : n ≤ 6) (s : Int32) (p : Nat) (hp : p < 4) (m : Int32) (b : Nat) (hb : b < n) (a : Int32) (σ : Sto) (hm : σ.1 5 1 = nI n) {Q : Option Value → Sto → Prop} (K : Ev S RX0 cX0_mindPart 7 (some .int) 1 6 [.ref 5, .int s, .int (nI p), .int m, .ref C, .int ((mpS σ C s p m) b a), .int (nI (b + 1))] [] σ (Q)) : Ev S RX0 cX0_mindPart 7 (some .int) 1 6 [.ref 5, .int s, .int (nI p), .int m, .ref C, .int a, .int (nI b)] [] σ (Q) := by
  have hb6 : b < 6 := by omega
  refine ev_iload_6 (pc := 6) dX0_mindPart_6 ?_
  refine ev_aload_n_0 (pc := 8) dX0_mindPart_8 ?_
  refine ev_getI (pc := 9) dX0_mindPart_9 fl_X0_31 (by decide) (by decide) (by decide) ?_
  refine ev_icmp_ge (pc := 12) (tgt := 56) dX0_mindPart_12 (by decide) (fun h12 => by exact absurd h12 (by rw [hm]; exact nI_ge hb (by omega))) (fun h12 => ?_)
  refine ev_iload_n_1 (pc := 15) dX0_mindPart_15 ?_
  refine ev_iload_6 (pc := 16) dX0_mindPart_16 ?_
  refine ev_ishr (pc := 18) dX0_mindPart_18 ?_
  refine ev_iconst (pc := 19) (v := 1) dX0_mindPart_19 (by decide) ?_
  refine ev_iand (pc := 20) dX0_mindPart_20 ?_
  refine ev_iconst (pc := 21) (v := 1) dX0_mindPart_21 (by decide) ?_
  refine ev_icmp_ne (pc := 22) (tgt := 50) dX0_mindPart_22 (by decide) (fun h22 => ?_) (fun h22 => ?_)
  · skip
    refine ev_iinc_6 (pc := 50) (v := nI (b + 1)) dX0_mindPart_50 (nI_inc b) (by decide) ?_
    refine ev_goto (pc := 53) (tgt := 6) dX0_mindPart_53 (by decide) ?_
    exact ev_eq (by simp only [mpS, bit, h22, ↓reduceIte]) rfl rfl K
  · skip
    refine ev_iload_5 (pc := 25) dX0_mindPart_25 ?_
    refine ev_aload_n_0 (pc := 27) dX0_mindPart_27 ?_
    refine ev_getR (pc := 28) (r := 6) dX0_mindPart_28 fl_X0_11 (by decide) (by decide) (by decide) (by decide) ?_
    refine ev_iload_6 (pc := 31) dX0_mindPart_31 ?_
    refine ev_aaload' (pc := 33) (r := (25 + 2 * b)) (j := b) dX0_mindPart_33 (by decide) (c := 14) (by decide) (by decide) (by decide) (show vp_in _ 6 from (vp_in_nI (by omega) (by decide))) (nI_clamp (by omega)) (rf6 b) ?_
    refine ev_iload_n_2 (pc := 34) dX0_mindPart_34 ?_
    refine ev_iload_n_3 (pc := 35) dX0_mindPart_35 ?_
    refine ev_aload_4 (pc := 36) dX0_mindPart_36 ?_
    refine ev_iload_6 (pc := 38) dX0_mindPart_38 ?_
    refine ev_iaload' (pc := 40) (j := b) dX0_mindPart_40 hC.1 hC.2.1 (by rw [hC.2.2]; exact (vp_in_nI (by omega) (by decide))) (nI_clamp (by omega)) ?_
    refine ev_callV1 (pc := 41) dX0_mindPart_41 ml_X0_79 (m_X5_offBy (isTa_of hb6) p hp _ _ σ) (isTa_of hb6).lt ⟨_, by rw [(isTa_of hb6).kd0]; rfl, rfl⟩ rfl (by decide) rfl (Nat.le_of_ble_eq_true rfl) ?_
    refine ev_mabs' (pc := 44) dX0_mindPart_44 ml_X0_83 (by decide) (Nat.le_of_ble_eq_true rfl) ?_
    refine ev_iadd (pc := 47) dX0_mindPart_47 ?_
    refine ev_istore_5 (pc := 48) dX0_mindPart_48 (by decide) ?_
    refine ev_iinc_6 (pc := 50) (v := nI (b + 1)) dX0_mindPart_50 (nI_inc b) (by decide) ?_
    refine ev_goto (pc := 53) (tgt := 6) dX0_mindPart_53 (by decide) ?_
    exact ev_eq (by simp only [mpS, bit, h22, ↓reduceIte]) rfl rfl K
theorem m_X0_mindPart {S : Scr} {C : Nat} (hC : IsA C 6) (n : Nat) (hn : n ≤ 6) (s : Int32) (p : Nat) (hp : p < 4) (m : Int32) (σ : Sto) (hm : σ.1 5 1 = nI n) : Mt S yX0_mindPart cX0_mindPart 7 (some .int) 1 [.ref 5, .int s, .int (nI p), .int m, .ref C] σ (Is (some (.int (mpB σ C n s p m))) σ) := by
  refine mt_of (ls := [.ref 5, .int s, .int (nI p), .int m, .ref C, .null, .null]) (by decide) rfl (Nat.le_of_ble_eq_true rfl) (by simp [Value.category]) ?_
  refine ev_iconst (pc := 0) (v := 0) dX0_mindPart_0 (by decide) ?_
  refine ev_istore_5 (pc := 1) dX0_mindPart_1 (by decide) ?_
  refine ev_iconst (pc := 3) (v := 0) dX0_mindPart_3 (by decide) ?_
  refine ev_istore_6 (pc := 4) dX0_mindPart_4 (by decide) ?_
  refine for_up n (fun i a => Ev S RX0 cX0_mindPart 7 (some .int) 1 6 [.ref 5, .int s, .int (nI p), .int m, .ref C, .int a, .int (nI i)] [] σ (Is (some (.int (mpB σ C n s p m))) σ)) (mpS σ C s p m) (fun i a hi K => b_X0_mindPart hC n hn s p hp m i hi a σ hm K) 0 ?_
  refine ev_iload_6 (pc := 6) dX0_mindPart_6 ?_
  refine ev_aload_n_0 (pc := 8) dX0_mindPart_8 ?_
  refine ev_getI (pc := 9) dX0_mindPart_9 fl_X0_31 (by decide) (by decide) (by decide) ?_
  refine ev_icmp_ge (pc := 12) (tgt := 56) dX0_mindPart_12 (by decide) (fun h12 => ?_) (fun h12 => by exact absurd (by rw [hm]; exact nI_le (Nat.le_refl n) (by omega)) h12)
  refine ev_iload_5 (pc := 56) dX0_mindPart_56 ?_
  exact ev_ireturn (pc := 58) dX0_mindPart_58 rfl rfl (⟨rfl, rfl⟩)
abbrev baS (σ : Sto) (C n : Nat) (s : Int32) (p i : Nat) (a : Int32 × Int32) : Int32 × Int32 := if a.2 ≤ mpB σ C n s p (nI i) then a else (nI i, mpB σ C n s p (nI i))
abbrev baB (σ : Sto) (C n : Nat) (s : Int32) (p : Nat) : Int32 := (baS σ C n s p 5 (baS σ C n s p 4 (baS σ C n s p 3 (baS σ C n s p 2 (baS σ C n s p 1 (0, mpB σ C n s p 0)))))).1
set_option maxRecDepth 100000 in
theorem b_X0_bestAmount {S : Scr} {C : Nat} (hC : IsA C 6) (n : Nat) (hn : n ≤ 6) (s : Int32) (p : Nat) (hp : p < 4) (i : Nat) (hi : i < 6) (a : Int32 × Int32) (σ : Sto) (hm : σ.1 5 1 = nI n) {Q : Option Value → Sto → Prop} (K : Ev S RX0 cX0_bestAmount 8 (some .int) 2 16 [.ref 5, .int s, .int (nI p), .ref C, .int (baS σ C n s p i a).1, .int (baS σ C n s p i a).2, .int (nI (i + 1)), .null] [] σ (Q)) : Ev S RX0 cX0_bestAmount 8 (some .int) 2 16 [.ref 5, .int s, .int (nI p), .ref C, .int a.1, .int a.2, .int (nI i), .null] [] σ (Q) := by
  refine ev_iload_6 (pc := 16) dX0_bestAmount_16 ?_
  refine ev_iconst (pc := 18) (v := 5) dX0_bestAmount_18 (by decide) ?_
  refine ev_icmp_gt (pc := 19) (tgt := 54) dX0_bestAmount_19 (by decide) (fun h19 => by exact absurd h19 (nI_nlt (a := 5) (b := i) (by omega) (by decide))) (fun h19 => ?_)
  refine ev_aload_n_0 (pc := 22) dX0_bestAmount_22 ?_
  refine ev_iload_n_1 (pc := 23) dX0_bestAmount_23 ?_
  refine ev_iload_n_2 (pc := 24) dX0_bestAmount_24 ?_
  refine ev_iload_6 (pc := 25) dX0_bestAmount_25 ?_
  refine ev_aload_n_3 (pc := 27) dX0_bestAmount_27 ?_
  refine ev_callV1 (pc := 28) dX0_bestAmount_28 ml_X0_86 (m_X0_mindPart hC n hn s p hp (nI i) σ hm) (by decide) ⟨_, rfl, rfl⟩ rfl (by decide) rfl (Nat.le_of_ble_eq_true rfl) ?_
  refine ev_istore_7 (pc := 31) dX0_bestAmount_31 (by decide) ?_
  refine ev_iload_7 (pc := 33) dX0_bestAmount_33 ?_
  refine ev_iload_5 (pc := 35) dX0_bestAmount_35 ?_
  refine ev_icmp_ge (pc := 37) (tgt := 48) dX0_bestAmount_37 (by decide) (fun h37 => ?_) (fun h37 => ?_)
  · skip
    refine ev_iinc_6 (pc := 48) (v := nI (i + 1)) dX0_bestAmount_48 (nI_inc i) (by decide) ?_
    refine ev_goto (pc := 51) (tgt := 16) dX0_bestAmount_51 (by decide) ?_
    refine ev_null_7 ?_
    exact ev_eq (by simp only [baS, h37, ↓reduceIte]) rfl rfl K
  · skip
    refine ev_iload_7 (pc := 40) dX0_bestAmount_40 ?_
    refine ev_istore_5 (pc := 42) dX0_bestAmount_42 (by decide) ?_
    refine ev_iload_6 (pc := 44) dX0_bestAmount_44 ?_
    refine ev_istore_4 (pc := 46) dX0_bestAmount_46 (by decide) ?_
    refine ev_iinc_6 (pc := 48) (v := nI (i + 1)) dX0_bestAmount_48 (nI_inc i) (by decide) ?_
    refine ev_goto (pc := 51) (tgt := 16) dX0_bestAmount_51 (by decide) ?_
    refine ev_null_7 ?_
    exact ev_eq (by simp only [baS, h37, ↓reduceIte]) rfl rfl K
theorem m_X0_bestAmount {S : Scr} {C : Nat} (hC : IsA C 6) (n : Nat) (hn : n ≤ 6) (s : Int32) (p : Nat) (hp : p < 4) (σ : Sto) (hm : σ.1 5 1 = nI n) : Mt S yX0_bestAmount cX0_bestAmount 8 (some .int) 2 [.ref 5, .int s, .int (nI p), .ref C] σ (Is (some (.int (baB σ C n s p))) σ) := by
  refine mt_of (ls := [.ref 5, .int s, .int (nI p), .ref C, .null, .null, .null, .null]) (by decide) rfl (Nat.le_of_ble_eq_true rfl) (by simp [Value.category]) ?_
  refine ev_iconst (pc := 0) (v := 0) dX0_bestAmount_0 (by decide) ?_
  refine ev_istore_4 (pc := 1) dX0_bestAmount_1 (by decide) ?_
  refine ev_aload_n_0 (pc := 3) dX0_bestAmount_3 ?_
  refine ev_iload_n_1 (pc := 4) dX0_bestAmount_4 ?_
  refine ev_iload_n_2 (pc := 5) dX0_bestAmount_5 ?_
  refine ev_iconst (pc := 6) (v := 0) dX0_bestAmount_6 (by decide) ?_
  refine ev_aload_n_3 (pc := 7) dX0_bestAmount_7 ?_
  refine ev_callV1 (pc := 8) dX0_bestAmount_8 ml_X0_86 (m_X0_mindPart hC n hn s p hp 0 σ hm) (by decide) ⟨_, rfl, rfl⟩ rfl (by decide) rfl (Nat.le_of_ble_eq_true rfl) ?_
  refine ev_istore_5 (pc := 11) dX0_bestAmount_11 (by decide) ?_
  refine ev_iconst (pc := 13) (v := 1) dX0_bestAmount_13 (by decide) ?_
  refine ev_istore_6 (pc := 14) dX0_bestAmount_14 (by decide) ?_
  refine b_X0_bestAmount hC n hn s p hp 1 (by decide) (0, mpB σ C n s p 0) σ hm ?_
  refine b_X0_bestAmount hC n hn s p hp 2 (by decide) _ σ hm ?_
  refine b_X0_bestAmount hC n hn s p hp 3 (by decide) _ σ hm ?_
  refine b_X0_bestAmount hC n hn s p hp 4 (by decide) _ σ hm ?_
  refine b_X0_bestAmount hC n hn s p hp 5 (by decide) _ σ hm ?_
  refine ev_iload_6 (pc := 16) dX0_bestAmount_16 ?_
  refine ev_iconst (pc := 18) (v := 5) dX0_bestAmount_18 (by decide) ?_
  refine ev_icmp_gt (pc := 19) (tgt := 54) dX0_bestAmount_19 (by decide) (fun h19 => ?_) (fun h19 => by exact absurd h19 (by decide))
  refine ev_iload_4 (pc := 54) dX0_bestAmount_54 ?_
  exact ev_ireturn (pc := 56) dX0_bestAmount_56 rfl rfl (⟨rfl, rfl⟩)
abbrev lmB (σ : Sto) (C n : Nat) (s : Int32) : Int32 := 0 + mpB σ C n s 0 (baB σ C n s 0) + mpB σ C n s 1 (baB σ C n s 1) + mpB σ C n s 2 (baB σ C n s 2) + mpB σ C n s 3 (baB σ C n s 3)
set_option maxRecDepth 100000 in
theorem m_X0_leastMind {S : Scr} {C : Nat} (hC : IsA C 6) (n : Nat) (hn : n ≤ 6) (s : Int32) (σ : Sto) (hm : σ.1 5 1 = nI n) : Mt S yX0_leastMind cX0_leastMind 5 (some .int) 3 [.ref 5, .int s, .ref C] σ (Is (some (.int (lmB σ C n s))) σ) := by
  refine mt_of (ls := [.ref 5, .int s, .ref C, .null, .null]) (by decide) rfl (Nat.le_of_ble_eq_true rfl) (by simp [Value.category]) ?_
  refine ev_iconst (pc := 0) (v := 0) dX0_leastMind_0 (by decide) ?_
  refine ev_istore_n_3 (pc := 1) dX0_leastMind_1 (by decide) ?_
  refine ev_iconst (pc := 2) (v := 0) dX0_leastMind_2 (by decide) ?_
  refine ev_istore_4 (pc := 3) dX0_leastMind_3 (by decide) ?_
  refine ev_iload_4 (pc := 5) dX0_leastMind_5 ?_
  refine ev_iconst (pc := 7) (v := 4) dX0_leastMind_7 (by decide) ?_
  refine ev_icmp_ge (pc := 8) (tgt := 36) dX0_leastMind_8 (by decide) (fun h8 => by exact absurd h8 (by decide)) (fun h8 => ?_)
  refine ev_iload_n_3 (pc := 11) dX0_leastMind_11 ?_
  refine ev_aload_n_0 (pc := 12) dX0_leastMind_12 ?_
  refine ev_iload_n_1 (pc := 13) dX0_leastMind_13 ?_
  refine ev_iload_4 (pc := 14) dX0_leastMind_14 ?_
  refine ev_aload_n_0 (pc := 16) dX0_leastMind_16 ?_
  refine ev_iload_n_1 (pc := 17) dX0_leastMind_17 ?_
  refine ev_iload_4 (pc := 18) dX0_leastMind_18 ?_
  refine ev_aload_n_2 (pc := 20) dX0_leastMind_20 ?_
  refine ev_callV1 (pc := 21) dX0_leastMind_21 ml_X0_90 (m_X0_bestAmount hC n hn s 0 (by decide) σ hm) (by decide) ⟨_, rfl, rfl⟩ rfl (by decide) rfl (Nat.le_of_ble_eq_true rfl) ?_
  refine ev_aload_n_2 (pc := 24) dX0_leastMind_24 ?_
  refine ev_callV1 (pc := 25) dX0_leastMind_25 ml_X0_86 (m_X0_mindPart hC n hn s 0 (by decide) _ σ hm) (by decide) ⟨_, rfl, rfl⟩ rfl (by decide) rfl (Nat.le_of_ble_eq_true rfl) ?_
  refine ev_iadd (pc := 28) dX0_leastMind_28 ?_
  refine ev_istore_n_3 (pc := 29) dX0_leastMind_29 (by decide) ?_
  refine ev_iinc_4 (pc := 30) (v := 1) dX0_leastMind_30 (by decide) (by decide) ?_
  refine ev_goto (pc := 33) (tgt := 5) dX0_leastMind_33 (by decide) ?_
  refine ev_iload_4 (pc := 5) dX0_leastMind_5 ?_
  refine ev_iconst (pc := 7) (v := 4) dX0_leastMind_7 (by decide) ?_
  refine ev_icmp_ge (pc := 8) (tgt := 36) dX0_leastMind_8 (by decide) (fun h8 => by exact absurd h8 (by decide)) (fun h8 => ?_)
  refine ev_iload_n_3 (pc := 11) dX0_leastMind_11 ?_
  refine ev_aload_n_0 (pc := 12) dX0_leastMind_12 ?_
  refine ev_iload_n_1 (pc := 13) dX0_leastMind_13 ?_
  refine ev_iload_4 (pc := 14) dX0_leastMind_14 ?_
  refine ev_aload_n_0 (pc := 16) dX0_leastMind_16 ?_
  refine ev_iload_n_1 (pc := 17) dX0_leastMind_17 ?_
  refine ev_iload_4 (pc := 18) dX0_leastMind_18 ?_
  refine ev_aload_n_2 (pc := 20) dX0_leastMind_20 ?_
  refine ev_callV1 (pc := 21) dX0_leastMind_21 ml_X0_90 (m_X0_bestAmount hC n hn s 1 (by decide) σ hm) (by decide) ⟨_, rfl, rfl⟩ rfl (by decide) rfl (Nat.le_of_ble_eq_true rfl) ?_
  refine ev_aload_n_2 (pc := 24) dX0_leastMind_24 ?_
  refine ev_callV1 (pc := 25) dX0_leastMind_25 ml_X0_86 (m_X0_mindPart hC n hn s 1 (by decide) _ σ hm) (by decide) ⟨_, rfl, rfl⟩ rfl (by decide) rfl (Nat.le_of_ble_eq_true rfl) ?_
  refine ev_iadd (pc := 28) dX0_leastMind_28 ?_
  refine ev_istore_n_3 (pc := 29) dX0_leastMind_29 (by decide) ?_
  refine ev_iinc_4 (pc := 30) (v := 2) dX0_leastMind_30 (by decide) (by decide) ?_
  refine ev_goto (pc := 33) (tgt := 5) dX0_leastMind_33 (by decide) ?_
  refine ev_iload_4 (pc := 5) dX0_leastMind_5 ?_
  refine ev_iconst (pc := 7) (v := 4) dX0_leastMind_7 (by decide) ?_
  refine ev_icmp_ge (pc := 8) (tgt := 36) dX0_leastMind_8 (by decide) (fun h8 => by exact absurd h8 (by decide)) (fun h8 => ?_)
  refine ev_iload_n_3 (pc := 11) dX0_leastMind_11 ?_
  refine ev_aload_n_0 (pc := 12) dX0_leastMind_12 ?_
  refine ev_iload_n_1 (pc := 13) dX0_leastMind_13 ?_
  refine ev_iload_4 (pc := 14) dX0_leastMind_14 ?_
  refine ev_aload_n_0 (pc := 16) dX0_leastMind_16 ?_
  refine ev_iload_n_1 (pc := 17) dX0_leastMind_17 ?_
  refine ev_iload_4 (pc := 18) dX0_leastMind_18 ?_
  refine ev_aload_n_2 (pc := 20) dX0_leastMind_20 ?_
  refine ev_callV1 (pc := 21) dX0_leastMind_21 ml_X0_90 (m_X0_bestAmount hC n hn s 2 (by decide) σ hm) (by decide) ⟨_, rfl, rfl⟩ rfl (by decide) rfl (Nat.le_of_ble_eq_true rfl) ?_
  refine ev_aload_n_2 (pc := 24) dX0_leastMind_24 ?_
  refine ev_callV1 (pc := 25) dX0_leastMind_25 ml_X0_86 (m_X0_mindPart hC n hn s 2 (by decide) _ σ hm) (by decide) ⟨_, rfl, rfl⟩ rfl (by decide) rfl (Nat.le_of_ble_eq_true rfl) ?_
  refine ev_iadd (pc := 28) dX0_leastMind_28 ?_
  refine ev_istore_n_3 (pc := 29) dX0_leastMind_29 (by decide) ?_
  refine ev_iinc_4 (pc := 30) (v := 3) dX0_leastMind_30 (by decide) (by decide) ?_
  refine ev_goto (pc := 33) (tgt := 5) dX0_leastMind_33 (by decide) ?_
  refine ev_iload_4 (pc := 5) dX0_leastMind_5 ?_
  refine ev_iconst (pc := 7) (v := 4) dX0_leastMind_7 (by decide) ?_
  refine ev_icmp_ge (pc := 8) (tgt := 36) dX0_leastMind_8 (by decide) (fun h8 => by exact absurd h8 (by decide)) (fun h8 => ?_)
  refine ev_iload_n_3 (pc := 11) dX0_leastMind_11 ?_
  refine ev_aload_n_0 (pc := 12) dX0_leastMind_12 ?_
  refine ev_iload_n_1 (pc := 13) dX0_leastMind_13 ?_
  refine ev_iload_4 (pc := 14) dX0_leastMind_14 ?_
  refine ev_aload_n_0 (pc := 16) dX0_leastMind_16 ?_
  refine ev_iload_n_1 (pc := 17) dX0_leastMind_17 ?_
  refine ev_iload_4 (pc := 18) dX0_leastMind_18 ?_
  refine ev_aload_n_2 (pc := 20) dX0_leastMind_20 ?_
  refine ev_callV1 (pc := 21) dX0_leastMind_21 ml_X0_90 (m_X0_bestAmount hC n hn s 3 (by decide) σ hm) (by decide) ⟨_, rfl, rfl⟩ rfl (by decide) rfl (Nat.le_of_ble_eq_true rfl) ?_
  refine ev_aload_n_2 (pc := 24) dX0_leastMind_24 ?_
  refine ev_callV1 (pc := 25) dX0_leastMind_25 ml_X0_86 (m_X0_mindPart hC n hn s 3 (by decide) _ σ hm) (by decide) ⟨_, rfl, rfl⟩ rfl (by decide) rfl (Nat.le_of_ble_eq_true rfl) ?_
  refine ev_iadd (pc := 28) dX0_leastMind_28 ?_
  refine ev_istore_n_3 (pc := 29) dX0_leastMind_29 (by decide) ?_
  refine ev_iinc_4 (pc := 30) (v := 4) dX0_leastMind_30 (by decide) (by decide) ?_
  refine ev_goto (pc := 33) (tgt := 5) dX0_leastMind_33 (by decide) ?_
  refine ev_iload_4 (pc := 5) dX0_leastMind_5 ?_
  refine ev_iconst (pc := 7) (v := 4) dX0_leastMind_7 (by decide) ?_
  refine ev_icmp_ge (pc := 8) (tgt := 36) dX0_leastMind_8 (by decide) (fun h8 => ?_) (fun h8 => by exact absurd h8 (by decide))
  refine ev_iload_n_3 (pc := 36) dX0_leastMind_36 ?_
  exact ev_ireturn (pc := 37) dX0_leastMind_37 rfl rfl (⟨rfl, rfl⟩)
