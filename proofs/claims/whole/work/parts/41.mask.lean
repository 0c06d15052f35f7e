/-! ===== the reference: ask ===== -/
def ptW (σ : Sto) (w : Nat → Int32) : Sto := (fun a b => if a = 130 ∧ b < 9 then w b else σ.1 a b, σ.2)
theorem ptW_ne {σ : Sto} {w : Nat → Int32} {c : Nat} (h : c ≠ 130) : (ptW σ w).1 c = σ.1 c := by funext b; unfold ptW; simp [h]
theorem ptW_at {σ : Sto} {w : Nat → Int32} {j : Nat} (h : j < 9) : (ptW σ w).1 130 j = w j := by unfold ptW; simp [h]
theorem mls_pt (σ : Sto) (w : Nat → Int32) : Mls σ (ptW σ w) := ⟨rfl, fun c hc => ptW_ne (by omega), fun c h1 h2 => ptW_ne (by omega), fun j _ => by rw [ptW_ne (by decide)]⟩
abbrev cnF (A : Abs) (f : Nat → Int32) (n m : Nat) : Int32 := itN (fun r a => if fitA A r ∧ mienD (dg r) 0 f 0 = nI m then a + 1 else a) n 0
theorem cn_sm (A : Abs) (f : Nat → Int32) (m : Nat) : ∀ n, ∃ k, k ≤ n ∧ cnF A f n m = nI k := by
  intro n
  induction n with
  | zero => exact ⟨0, Nat.le_refl 0, rfl⟩
  | succ n ih =>
    obtain ⟨k, hk, e⟩ := ih
    show ∃ k, k ≤ n + 1 ∧ (if fitA A n ∧ mienD (dg n) 0 f 0 = nI m then cnF A f n m + 1 else cnF A f n m) = nI k
    rw [e]
    split
    · exact ⟨k + 1, by omega, nI_s1 k⟩
    · exact ⟨k, by omega, rfl⟩
theorem cn_s (A : Abs) (f : Nat → Int32) (n m : Nat) : cnF A f (n + 1) m = if fitA A n ∧ mienD (dg n) 0 f 0 = nI m then cnF A f n m + 1 else cnF A f n m := rfl
theorem cn_le (A : Abs) (f : Nat → Int32) {n : Nat} (m : Nat) (hn : n < 1296) : cnF A f n m ≤ cnF A f (n + 1) m := by
  rw [cn_s]
  obtain ⟨k, hk, e⟩ := cn_sm A f m n
  rw [e]
  split
  · rw [nI_s1]; exact nI_le (by omega) (by omega)
  · exact Int32.le_refl _
theorem mx_iff {a b x : Int32} : mxI a b ≤ x ↔ a ≤ x ∧ b ≤ x := by
  unfold mxI
  rw [tI_le, tI_le, tI_le]
  by_cases z : a < b
  · rw [if_pos z]; rw [tI_lt] at z; omega
  · rw [if_neg z]; rw [tI_lt] at z; omega
theorem gmN_iff (f : Nat → Int32) (x : Int32) : ∀ n, itN (fun i a => mxI a (f i)) n 0 ≤ x ↔ 0 ≤ x ∧ ∀ m, m < n → f m ≤ x := by
  intro n
  induction n with
  | zero => exact ⟨fun h => ⟨h, fun m hm => absurd hm (Nat.not_lt_zero m)⟩, fun h => h.1⟩
  | succ n ih =>
    show mxI (itN _ n 0) (f n) ≤ x ↔ _
    rw [mx_iff, ih]
    constructor
    · intro g
      refine ⟨g.1.1, fun m hm => ?_⟩
      rcases Nat.lt_or_ge m n with z | z
      · exact g.1.2 m z
      · obtain rfl : m = n := by omega
        exact g.2
    · intro g
      exact ⟨⟨g.1, fun m hm => g.2 m (by omega)⟩, g.2 n (by omega)⟩
theorem le_all {a b : Int32} (h : ∀ x, a ≤ x ↔ b ≤ x) : a = b := by
  have h1 := (h b).mpr (Int32.le_refl _)
  have h2 := (h a).mp (Int32.le_refl _)
  rw [tI_le] at h1 h2
  rw [tI_eq]; omega
theorem gm_up {f g : Nat → Int32} {j : Nat} (hj : j < 9) (h1 : f j ≤ g j) (h2 : ∀ m, m < 9 → m ≠ j → g m = f m) : mxI (gm f) (g j) = gm g := by
  refine le_all (fun x => ?_)
  rw [mx_iff, gmN_iff, gmN_iff]
  constructor
  · intro z
    refine ⟨z.1.1, fun m hm => ?_⟩
    by_cases q : m = j
    · rw [q]; exact z.2
    · rw [h2 m hm q]; exact z.1.2 m hm
  · intro z
    refine ⟨⟨z.1, fun m hm => ?_⟩, z.2 j hj⟩
    by_cases q : m = j
    · rw [q]; exact Int32.le_trans h1 (z.2 j hj)
    · rw [← h2 m hm q]; exact z.2 m hm
theorem gm_step {A : Abs} {f : Nat → Int32} {r j : Nat} (hr : r < 1296) (hj : j < 9) (ej : mienD (dg r) 0 f 0 = nI j) : mxI (gm (cnF A f r)) (cnF A f (r + 1) j) = gm (cnF A f (r + 1)) := gm_up hj (cn_le A f j hr) (fun m hm hne => by
  rw [cn_s, if_neg (fun z => hne (nI_inj (z.2.symm.trans ej) (by omega) (by omega)))])
theorem pt_step {A : Abs} {σ : Sto} {f : Nat → Int32} {r j : Nat} (hr : r < 1296) (hj : j < 9) (ej : mienD (dg r) 0 f 0 = nI j) : wr (ptW σ (cnF A f r)) 130 j (cnF A f (r + 1) j) = ptW σ (cnF A f (r + 1)) := by
  refine Prod.ext (funext fun a => funext fun b => ?_) rfl
  unfold wr ptW
  show (if a = 130 ∧ b = j then _ else if a = 130 ∧ b < 9 then _ else _) = if a = 130 ∧ b < 9 then _ else _
  by_cases e : a = 130
  · by_cases e2 : b = j
    · rw [if_pos ⟨e, e2⟩, if_pos ⟨e, by omega⟩, e2]
    · rw [if_neg (fun z => e2 z.2)]
      by_cases e3 : b < 9
      · rw [if_pos ⟨e, e3⟩, if_pos ⟨e, e3⟩, cn_s, if_neg (fun z => e2 (nI_inj (z.2.symm.trans ej) (by omega) (by omega)))]
      · rw [if_neg (fun z => e3 z.2), if_neg (fun z => e3 z.2)]
  · rw [if_neg (fun z => e z.1), if_neg (fun z => e z.1), if_neg (fun z => e z.1)]
set_option maxRecDepth 100000 in
theorem b_X8_greatestPart {S : Scr} {A : Abs} (f : Nat → Int32) (r : Nat) (hr : r < 1296) (x : Value) (σ : Sto) {Q : Option Value → Sto → Prop} (h : RM A σ) (hf : ∀ q, q < 4 → σ.1 129 (0 + q) = f q) (hs : ∀ q, q < 4 → ∃ v, v ≤ 6 ∧ f q = nI v) (K : ∀ x, Ev S RX8 cX8_greatestPart 4 (some .int) 3 25 [.ref 117, .int (gm (cnF A f (r + 1))), .int (nI (r + 1)), x] [] (ptW σ (cnF A f (r + 1))) (Q)) : Ev S RX8 cX8_greatestPart 4 (some .int) 3 25 [.ref 117, .int (gm (cnF A f r)), .int (nI r), x] [] (ptW σ (cnF A f r)) (Q) := by
  obtain ⟨j, hj, ej⟩ := mienS_lt (r := r) (f := f)
  have gs := gm_step (A := A) hr hj ej
  have ps := pt_step (A := A) (σ := σ) hr hj ej
  refine ev_iload_n_2 (pc := 25) dX8_greatestPart_25 ?_
  refine ev_sipush (pc := 26) (v := 1296) dX8_greatestPart_26 (by decide) ?_
  refine ev_icmp_ge (pc := 29) (tgt := 91) dX8_greatestPart_29 (by decide) (fun h29 => by exact absurd h29 (nI_ge (a := r) (b := 1296) hr (by decide))) (fun h29 => ?_)
  refine ev_iload_n_2 (pc := 32) dX8_greatestPart_32 ?_
  refine ev_aload_n_0 (pc := 33) dX8_greatestPart_33 ?_
  refine ev_getR (pc := 34) (r := 129) dX8_greatestPart_34 fl_X8_44 (by decide) (by decide) (by decide) (by decide) ?_
  refine ev_iconst (pc := 37) (v := 0) dX8_greatestPart_37 (by decide) ?_
  refine ev_callS1 (pc := 38) dX8_greatestPart_38 ml_X8_202 (m_X8_mienOf isA_129 0 (by decide) (by decide) r hr f _ (fun q hq => by rw [ptW_ne (by decide)]; exact hf q hq) hs) rfl (by decide) rfl (Nat.le_of_ble_eq_true rfl) ?_
  rw [ej]
  refine ev_istore_n_3 (pc := 41) dX8_greatestPart_41 (by decide) ?_
  refine ev_aload_n_0 (pc := 42) dX8_greatestPart_42 ?_
  refine ev_getR (pc := 43) (r := 130) dX8_greatestPart_43 fl_X8_47 (by decide) (by decide) (by decide) (by decide) ?_
  refine ev_iload_n_3 (pc := 46) dX8_greatestPart_46 ?_
  refine ev_dup2 (pc := 47) dX8_greatestPart_47 rfl rfl ?_
  refine ev_iaload' (pc := 48) (j := j) dX8_greatestPart_48 (by decide) (by decide) (show vp_in _ 9 from (vp_in_nI (by omega) (by decide))) (nI_clamp (by omega)) ?_
  rw [ptW_at hj]
  refine ev_aload_n_0 (pc := 49) dX8_greatestPart_49 ?_
  refine ev_iload_n_2 (pc := 50) dX8_greatestPart_50 ?_
  refine ev_callV1 (pc := 51) dX8_greatestPart_51 ml_X8_206 (m_X8_isSo r hr _ (h.mv (mls_pt _ _))) (by decide) ⟨_, rfl, rfl⟩ rfl (by decide) rfl (Nat.le_of_ble_eq_true rfl) ?_
  refine ev_if_eq (pc := 54) (tgt := 61) dX8_greatestPart_54 (by decide) (fun h54 => ?_) (fun h54 => ?_)
  · skip
    refine ev_iconst (pc := 61) (v := 0) dX8_greatestPart_61 (by decide) ?_
    refine ev_iadd (pc := 62) dX8_greatestPart_62 ?_
    refine ev_iastore' (pc := 63) (j := j) dX8_greatestPart_63 (by decide) (by decide) (show vp_in _ 9 from (vp_in_nI (by omega) (by decide))) (nI_clamp (by omega)) ?_
    refine ev_aload_n_0 (pc := 64) dX8_greatestPart_64 ?_
    refine ev_getR (pc := 65) (r := 130) dX8_greatestPart_65 fl_X8_47 (by decide) (by decide) (by decide) (by decide) ?_
    refine ev_iload_n_3 (pc := 68) dX8_greatestPart_68 ?_
    refine ev_iaload' (pc := 69) (j := j) dX8_greatestPart_69 (by decide) (by decide) (show vp_in _ 9 from (vp_in_nI (by omega) (by decide))) (nI_clamp (by omega)) ?_
    rw [wr_at]
    refine ev_iload_n_1 (pc := 70) dX8_greatestPart_70 ?_
    refine ev_icmp_le (pc := 71) (tgt := 83) dX8_greatestPart_71 (by decide) (fun h71 => ?_) (fun h71 => ?_)
    · skip
      refine ev_iload_n_1 (pc := 83) dX8_greatestPart_83 ?_
      refine ev_istore_n_1 (pc := 84) dX8_greatestPart_84 (by decide) ?_
      refine ev_iinc_2 (pc := 85) (v := nI (r + 1)) dX8_greatestPart_85 (nI_inc r) (by decide) ?_
      refine ev_goto (pc := 88) (tgt := 25) dX8_greatestPart_88 (by decide) ?_
      have e : cnF A f (r + 1) j = cnF A f r j + 0 := by rw [cn_s, if_neg (fun z => bI0.mp h54 z.1), Int32.add_zero]
      rw [e] at gs ps
      rw [mx_le, if_pos h71] at gs
      exact ev_eq (by rw [gs]) rfl ps (K (.int (nI j)))
    · skip
      refine ev_aload_n_0 (pc := 74) dX8_greatestPart_74 ?_
      refine ev_getR (pc := 75) (r := 130) dX8_greatestPart_75 fl_X8_47 (by decide) (by decide) (by decide) (by decide) ?_
      refine ev_iload_n_3 (pc := 78) dX8_greatestPart_78 ?_
      refine ev_iaload' (pc := 79) (j := j) dX8_greatestPart_79 (by decide) (by decide) (show vp_in _ 9 from (vp_in_nI (by omega) (by decide))) (nI_clamp (by omega)) ?_
      rw [wr_at]
      refine ev_goto (pc := 80) (tgt := 84) dX8_greatestPart_80 (by decide) ?_
      refine ev_istore_n_1 (pc := 84) dX8_greatestPart_84 (by decide) ?_
      refine ev_iinc_2 (pc := 85) (v := nI (r + 1)) dX8_greatestPart_85 (nI_inc r) (by decide) ?_
      refine ev_goto (pc := 88) (tgt := 25) dX8_greatestPart_88 (by decide) ?_
      have e : cnF A f (r + 1) j = cnF A f r j + 0 := by rw [cn_s, if_neg (fun z => bI0.mp h54 z.1), Int32.add_zero]
      rw [e] at gs ps
      rw [mx_le, if_neg h71] at gs
      exact ev_eq (by rw [gs]) rfl ps (K (.int (nI j)))
  · skip
    refine ev_iconst (pc := 57) (v := 1) dX8_greatestPart_57 (by decide) ?_
    refine ev_goto (pc := 58) (tgt := 62) dX8_greatestPart_58 (by decide) ?_
    refine ev_iadd (pc := 62) dX8_greatestPart_62 ?_
    refine ev_iastore' (pc := 63) (j := j) dX8_greatestPart_63 (by decide) (by decide) (show vp_in _ 9 from (vp_in_nI (by omega) (by decide))) (nI_clamp (by omega)) ?_
    refine ev_aload_n_0 (pc := 64) dX8_greatestPart_64 ?_
    refine ev_getR (pc := 65) (r := 130) dX8_greatestPart_65 fl_X8_47 (by decide) (by decide) (by decide) (by decide) ?_
    refine ev_iload_n_3 (pc := 68) dX8_greatestPart_68 ?_
    refine ev_iaload' (pc := 69) (j := j) dX8_greatestPart_69 (by decide) (by decide) (show vp_in _ 9 from (vp_in_nI (by omega) (by decide))) (nI_clamp (by omega)) ?_
    rw [wr_at]
    refine ev_iload_n_1 (pc := 70) dX8_greatestPart_70 ?_
    refine ev_icmp_le (pc := 71) (tgt := 83) dX8_greatestPart_71 (by decide) (fun h71 => ?_) (fun h71 => ?_)
    · skip
      refine ev_iload_n_1 (pc := 83) dX8_greatestPart_83 ?_
      refine ev_istore_n_1 (pc := 84) dX8_greatestPart_84 (by decide) ?_
      refine ev_iinc_2 (pc := 85) (v := nI (r + 1)) dX8_greatestPart_85 (nI_inc r) (by decide) ?_
      refine ev_goto (pc := 88) (tgt := 25) dX8_greatestPart_88 (by decide) ?_
      have e : cnF A f (r + 1) j = cnF A f r j + 1 := by rw [cn_s, if_pos ⟨Decidable.not_not.mp (fun z => h54 (bI0.mpr z)), ej⟩]
      rw [e] at gs ps
      rw [mx_le, if_pos h71] at gs
      exact ev_eq (by rw [gs]) rfl ps (K (.int (nI j)))
    · skip
      refine ev_aload_n_0 (pc := 74) dX8_greatestPart_74 ?_
      refine ev_getR (pc := 75) (r := 130) dX8_greatestPart_75 fl_X8_47 (by decide) (by decide) (by decide) (by decide) ?_
      refine ev_iload_n_3 (pc := 78) dX8_greatestPart_78 ?_
      refine ev_iaload' (pc := 79) (j := j) dX8_greatestPart_79 (by decide) (by decide) (show vp_in _ 9 from (vp_in_nI (by omega) (by decide))) (nI_clamp (by omega)) ?_
      rw [wr_at]
      refine ev_goto (pc := 80) (tgt := 84) dX8_greatestPart_80 (by decide) ?_
      refine ev_istore_n_1 (pc := 84) dX8_greatestPart_84 (by decide) ?_
      refine ev_iinc_2 (pc := 85) (v := nI (r + 1)) dX8_greatestPart_85 (nI_inc r) (by decide) ?_
      refine ev_goto (pc := 88) (tgt := 25) dX8_greatestPart_88 (by decide) ?_
      have e : cnF A f (r + 1) j = cnF A f r j + 1 := by rw [cn_s, if_pos ⟨Decidable.not_not.mp (fun z => h54 (bI0.mpr z)), ej⟩]
      rw [e] at gs ps
      rw [mx_le, if_neg h71] at gs
      exact ev_eq (by rw [gs]) rfl ps (K (.int (nI j)))
set_option maxRecDepth 100000 in
theorem b0_X8_greatestPart {S : Scr} (i : Nat) (hi : i < 9) (σ : Sto) {Q : Option Value → Sto → Prop} (K : Ev S RX8 cX8_greatestPart 4 (some .int) 3 4 [.ref 117, .int 0, .int (nI (i + 1)), .null] [] (wr σ 130 i 0) (Q)) : Ev S RX8 cX8_greatestPart 4 (some .int) 3 4 [.ref 117, .int 0, .int (nI i), .null] [] σ (Q) := by
  refine ev_iload_n_2 (pc := 4) dX8_greatestPart_4 ?_
  refine ev_bipush (pc := 5) (v := 9) dX8_greatestPart_5 (by decide) ?_
  refine ev_icmp_ge (pc := 7) (tgt := 23) dX8_greatestPart_7 (by decide) (fun h7 => by exact absurd h7 (nI_ge (a := i) (b := 9) hi (by decide))) (fun h7 => ?_)
  refine ev_aload_n_0 (pc := 10) dX8_greatestPart_10 ?_
  refine ev_getR (pc := 11) (r := 130) dX8_greatestPart_11 fl_X8_47 (by decide) (by decide) (by decide) (by decide) ?_
  refine ev_iload_n_2 (pc := 14) dX8_greatestPart_14 ?_
  refine ev_iconst (pc := 15) (v := 0) dX8_greatestPart_15 (by decide) ?_
  refine ev_iastore' (pc := 16) (j := i) dX8_greatestPart_16 (by decide) (by decide) (show vp_in _ 9 from (vp_in_nI (by omega) (by decide))) (nI_clamp (by omega)) ?_
  refine ev_iinc_2 (pc := 17) (v := nI (i + 1)) dX8_greatestPart_17 (nI_inc i) (by decide) ?_
  refine ev_goto (pc := 20) (tgt := 4) dX8_greatestPart_20 (by decide) ?_
  exact K
theorem gm_00 : ∀ n, itN (fun (_ : Nat) a => mxI a 0) n 0 = 0 := by
  intro n
  induction n with
  | zero => rfl
  | succ n ih => show mxI (itN _ n 0) 0 = 0; rw [ih]; decide
theorem gm_0 (A : Abs) (f : Nat → Int32) : gm (cnF A f 0) = 0 := gm_00 9
theorem l_X8_greatestPart {S : Scr} {A : Abs} (f : Nat → Int32) (σ : Sto) {Q : Option Value → Sto → Prop} (h : RM A σ) (hf : ∀ q, q < 4 → σ.1 129 (0 + q) = f q) (hs : ∀ q, q < 4 → ∃ v, v ≤ 6 ∧ f q = nI v) (K : ∀ x, Ev S RX8 cX8_greatestPart 4 (some .int) 3 25 [.ref 117, .int (gm (cnF A f 1296)), .int (nI 1296), x] [] (ptW σ (cnF A f 1296)) (Q)) (x : Value) : Ev S RX8 cX8_greatestPart 4 (some .int) 3 25 [.ref 117, .int (gm (cnF A f 0)), .int (nI 0), x] [] (ptW σ (cnF A f 0)) (Q) :=
  for_up 1296 (fun r (_ : Unit) => ∀ x, Ev S RX8 cX8_greatestPart 4 (some .int) 3 25 [.ref 117, .int (gm (cnF A f r)), .int (nI r), x] [] (ptW σ (cnF A f r)) (Q)) (fun _ u => u) (fun r _ hr K x => b_X8_greatestPart f r hr x σ h hf hs K) () K x
theorem m_X8_greatestPart {S : Scr} {A : Abs} (f : Nat → Int32) (σ : Sto) (h : RM A σ) (hf : ∀ q, q < 4 → σ.1 129 (0 + q) = f q) (hs : ∀ q, q < 4 → ∃ v, v ≤ 6 ∧ f q = nI v) : Mt S yX8_greatestPart cX8_greatestPart 4 (some .int) 3 [.ref 117] σ (Is (some (.int (gm (cnF A f 1296)))) (ptW σ (cnF A f 1296))) := by
  refine mt_of (ls := [.ref 117, .null, .null, .null]) (by decide) rfl (Nat.le_of_ble_eq_true rfl) (by simp [Value.category]) ?_
  refine ev_iconst (pc := 0) (v := 0) dX8_greatestPart_0 (by decide) ?_
  refine ev_istore_n_1 (pc := 1) dX8_greatestPart_1 (by decide) ?_
  refine ev_iconst (pc := 2) (v := 0) dX8_greatestPart_2 (by decide) ?_
  refine ev_istore_n_2 (pc := 3) dX8_greatestPart_3 (by decide) ?_
  have key : Ev S RX8 cX8_greatestPart 4 (some .int) 3 4 [.ref 117, .int 0, .int (nI 9), .null] [] (flW σ 130 0 9) (Is (some (.int (gm (cnF A f 1296)))) (ptW σ (cnF A f 1296))) → Ev S RX8 cX8_greatestPart 4 (some .int) 3 4 [.ref 117, .int 0, .int (nI 0), .null] [] σ (Is (some (.int (gm (cnF A f 1296)))) (ptW σ (cnF A f 1296))) := fun z => by
    have := for_up 9 (fun i (_ : Unit) => Ev S RX8 cX8_greatestPart 4 (some .int) 3 4 [.ref 117, .int 0, .int (nI i), .null] [] (flW σ 130 0 i) (Is (some (.int (gm (cnF A f 1296)))) (ptW σ (cnF A f 1296)))) (fun _ u => u) (fun i _ hi K => b0_X8_greatestPart i hi _ (by rw [flW_s]; exact K)) () z
    rw [flW_0] at this
    exact this
  refine key ?_
  refine ev_iload_n_2 (pc := 4) dX8_greatestPart_4 ?_
  refine ev_bipush (pc := 5) (v := 9) dX8_greatestPart_5 (by decide) ?_
  refine ev_icmp_ge (pc := 7) (tgt := 23) dX8_greatestPart_7 (by decide) (fun h7 => ?_) (fun h7 => by exact absurd h7 (by decide))
  refine ev_iconst (pc := 23) (v := 0) dX8_greatestPart_23 (by decide) ?_
  refine ev_istore_n_2 (pc := 24) dX8_greatestPart_24 (by decide) ?_
  refine ev_eq (ls' := [.ref 117, .int (gm (cnF A f 0)), .int (nI 0), .null]) (σ' := (ptW σ (cnF A f 0))) (by rw [gm_0]; rfl) rfl rfl ?_
  refine l_X8_greatestPart f σ h hf hs (fun x => ?_) _
  generalize hG : cnF A f 1296 = G
  refine ev_iload_n_2 (pc := 25) dX8_greatestPart_25 ?_
  refine ev_sipush (pc := 26) (v := 1296) dX8_greatestPart_26 (by decide) ?_
  refine ev_icmp_ge (pc := 29) (tgt := 91) dX8_greatestPart_29 (by decide) (fun h29 => ?_) (fun h29 => by exact absurd h29 (by decide))
  refine ev_iload_n_1 (pc := 91) dX8_greatestPart_91 ?_
  exact ev_ireturn (pc := 92) dX8_greatestPart_92 rfl rfl (⟨rfl, rfl⟩)
