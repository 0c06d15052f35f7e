/-! ===== the reference: likings ===== -/
theorem isA_124 : IsA 124 16 := ⟨by decide, by decide, by decide⟩
/-- the first i of what was told fit row r -/
abbrev fitK (A : Abs) (r i : Nat) : Prop := ∀ e ∈ (aS A).take i, mienD (dg r) 0 e.1 0 = e.2
theorem fitK_s {A : Abs} {r i : Nat} {e : (Nat → Int32) × Int32} (h : (aS A)[i]? = some e) : fitK A r (i + 1) ↔ fitK A r i ∧ mienD (dg r) 0 e.1 0 = e.2 := by
  unfold fitK
  rw [List.take_add_one, h]
  constructor
  · intro g
    exact ⟨fun x hx => g x (List.mem_append_left _ hx), g e (List.mem_append_right _ (by simp))⟩
  · intro g x hx
    rcases List.mem_append.mp hx with z | z
    · exact g.1 x z
    · have : x = e := by simpa using z
      rw [this]; exact g.2
theorem fitK_all {A : Abs} {r : Nat} : fitK A r (aS A).length ↔ fitA A r := by unfold fitK fitA; rw [List.take_length]
theorem fitK_0 {A : Abs} {r : Nat} : fitK A r 0 := by unfold fitK; rw [List.take_zero]; exact fun e he => by cases he
theorem RM.seen {A : Abs} {σ : Sto} (h : RM A σ) {i : Nat} {e : (Nat → Int32) × Int32} (he : (aS A)[i]? = some e) : (∀ q, q < 4 → σ.1 124 (4 * i + q) = e.1 q) ∧ σ.1 125 i = e.2 ∧ ∀ q, q < 4 → ∃ v, v ≤ 6 ∧ e.1 q = nI v := by
  have := h.2.2.2.2.2.1.2 i e he
  refine ⟨this.1, this.2, fun q hq => ?_⟩
  obtain ⟨v, hv, ev⟩ := h.1.2.2.2.2.2.1 e (List.mem_of_getElem? he) q hq
  exact ⟨v, by omega, ev⟩
theorem RM.len4 {A : Abs} {σ : Sto} (h : RM A σ) : (aS A).length ≤ 4 := h.1.2.2.2.2.2.2.2.1
set_option maxRecDepth 100000 in
theorem b_X8_isSo {S : Scr} {A : Abs} (r : Nat) (hr : r < 1296) (i : Nat) (hi : i < (aS A).length) (σ : Sto) {Q : Option Value → Sto → Prop} (h : RM A σ) (K : Ev S RX8 cX8_isSo 4 (some .boolean) 2 4 [.ref 117, .int (nI r), .int (bI (fitK A r (i + 1))), .int (nI (i + 1))] [] σ (Q)) : Ev S RX8 cX8_isSo 4 (some .boolean) 2 4 [.ref 117, .int (nI r), .int (bI (fitK A r i)), .int (nI i)] [] σ (Q) := by
  have hl := h.len4
  have he : (aS A)[i]? = some (aS A)[i] := List.getElem?_eq_getElem hi
  revert he
  generalize (aS A)[i] = e
  intro he
  have hs := h.seen he
  refine ev_iload_n_3 (pc := 4) dX8_isSo_4 ?_
  refine ev_aload_n_0 (pc := 5) dX8_isSo_5 ?_
  refine ev_getI (pc := 6) dX8_isSo_6 fl_X8_116 (by decide) (by decide) (by decide) ?_
  refine ev_icmp_ge (pc := 9) (tgt := 48) dX8_isSo_9 (by decide) (fun h9 => by exact absurd h9 (by rw [h.told]; exact nI_ge hi (by omega))) (fun h9 => ?_)
  refine ev_iload_n_2 (pc := 12) dX8_isSo_12 ?_
  refine ev_if_eq (pc := 13) (tgt := 40) dX8_isSo_13 (by decide) (fun h13 => ?_) (fun h13 => ?_)
  · skip
    refine ev_iconst (pc := 40) (v := 0) dX8_isSo_40 (by decide) ?_
    refine ev_istore_n_2 (pc := 41) dX8_isSo_41 (by decide) ?_
    refine ev_iinc_3 (pc := 42) (v := nI (i + 1)) dX8_isSo_42 (nI_inc i) (by decide) ?_
    refine ev_goto (pc := 45) (tgt := 4) dX8_isSo_45 (by decide) ?_
    exact ev_eq (by rw [bI_f (fun z => bI0.mp h13 ((fitK_s he).mp z).1)]) rfl rfl K
  · skip
    refine ev_iload_n_1 (pc := 16) dX8_isSo_16 ?_
    refine ev_aload_n_0 (pc := 17) dX8_isSo_17 ?_
    refine ev_getR (pc := 18) (r := 124) dX8_isSo_18 fl_X8_29 (by decide) (by decide) (by decide) (by decide) ?_
    refine ev_iconst (pc := 21) (v := 4) dX8_isSo_21 (by decide) ?_
    refine ev_iload_n_3 (pc := 22) dX8_isSo_22 ?_
    refine ev_imulc (pc := 23) (v := nI (4 * i)) dX8_isSo_23 (nI_mul 4 i) ?_
    refine ev_callS1 (pc := 24) dX8_isSo_24 ml_X8_202 (m_X8_mienOf isA_124 (4 * i) (by omega) (by decide) r hr e.1 σ hs.1 hs.2.2) rfl (by decide) rfl (Nat.le_of_ble_eq_true rfl) ?_
    refine ev_aload_n_0 (pc := 27) dX8_isSo_27 ?_
    refine ev_getR (pc := 28) (r := 125) dX8_isSo_28 fl_X8_32 (by decide) (by decide) (by decide) (by decide) ?_
    refine ev_iload_n_3 (pc := 31) dX8_isSo_31 ?_
    refine ev_iaload' (pc := 32) (j := i) dX8_isSo_32 (by decide) (by decide) (show vp_in _ 4 from (vp_in_nI (by omega) (by decide))) (nI_clamp (by omega)) ?_
    rw [hs.2.1]
    refine ev_icmp_ne (pc := 33) (tgt := 40) dX8_isSo_33 (by decide) (fun h33 => ?_) (fun h33 => ?_)
    · skip
      refine ev_iconst (pc := 40) (v := 0) dX8_isSo_40 (by decide) ?_
      refine ev_istore_n_2 (pc := 41) dX8_isSo_41 (by decide) ?_
      refine ev_iinc_3 (pc := 42) (v := nI (i + 1)) dX8_isSo_42 (nI_inc i) (by decide) ?_
      refine ev_goto (pc := 45) (tgt := 4) dX8_isSo_45 (by decide) ?_
      exact ev_eq (by rw [bI_f (fun z => h33 ((fitK_s he).mp z).2)]) rfl rfl K
    · skip
      refine ev_iconst (pc := 36) (v := 1) dX8_isSo_36 (by decide) ?_
      refine ev_goto (pc := 37) (tgt := 41) dX8_isSo_37 (by decide) ?_
      refine ev_istore_n_2 (pc := 41) dX8_isSo_41 (by decide) ?_
      refine ev_iinc_3 (pc := 42) (v := nI (i + 1)) dX8_isSo_42 (nI_inc i) (by decide) ?_
      refine ev_goto (pc := 45) (tgt := 4) dX8_isSo_45 (by decide) ?_
      exact ev_eq (by rw [bI_t ((fitK_s he).mpr ⟨Decidable.not_not.mp (fun z => h13 (bI0.mpr z)), h33⟩)]) rfl rfl K
theorem m_X8_isSo {S : Scr} {A : Abs} (r : Nat) (hr : r < 1296) (σ : Sto) (h : RM A σ) : Mt S yX8_isSo cX8_isSo 4 (some .boolean) 2 [.ref 117, .int (nI r)] σ (Is (some (.int (bI (fitA A r)))) σ) := by
  refine mt_of (ls := [.ref 117, .int (nI r), .null, .null]) (by decide) rfl (Nat.le_of_ble_eq_true rfl) (by simp [Value.category]) ?_
  have hl := h.len4
  refine ev_iconst (pc := 0) (v := 1) dX8_isSo_0 (by decide) ?_
  refine ev_istore_n_2 (pc := 1) dX8_isSo_1 (by decide) ?_
  refine ev_iconst (pc := 2) (v := 0) dX8_isSo_2 (by decide) ?_
  refine ev_istore_n_3 (pc := 3) dX8_isSo_3 (by decide) ?_
  refine ev_eq (ls' := [.ref 117, .int (nI r), .int (bI (fitK A r 0)), .int (nI 0)]) (by rw [bI_t fitK_0]; rfl) rfl rfl ?_
  refine for_up (aS A).length (fun i (_ : Unit) => Ev S RX8 cX8_isSo 4 (some .boolean) 2 4 [.ref 117, .int (nI r), .int (bI (fitK A r i)), .int (nI i)] [] σ (Is (some (.int (bI (fitA A r)))) σ)) (fun _ u => u) (fun i _ hi K => b_X8_isSo r hr i hi σ h K) () ?_
  refine ev_iload_n_3 (pc := 4) dX8_isSo_4 ?_
  refine ev_aload_n_0 (pc := 5) dX8_isSo_5 ?_
  refine ev_getI (pc := 6) dX8_isSo_6 fl_X8_116 (by decide) (by decide) (by decide) ?_
  refine ev_icmp_ge (pc := 9) (tgt := 48) dX8_isSo_9 (by decide) (fun h9 => ?_) (fun h9 => by exact absurd (by rw [h.told]; exact Int32.le_refl _) h9)
  refine ev_iload_n_2 (pc := 48) dX8_isSo_48 ?_
  exact ev_ireturn (pc := 49) dX8_isSo_49 rfl (by unfold bI; split <;> rfl) (⟨by rw [bI_iff fitK_all], rfl⟩)
abbrev mlS (A : Abs) (p r : Nat) (a : Int32 × Int32 × Int32) : Int32 × Int32 × Int32 := if fitA A r then (a.1 + 1, if a.1 = 0 then dg r p else mnI a.2.1 (dg r p), mxI a.2.2 (dg r p)) else a
theorem ml_sm : ∀ v, v ≤ 5 → mxI (-9) (nI v) = nI v ∧ mnI 5 (nI v) = nI v ∧ mxI 0 (nI v) = nI v := by decide +kernel
theorem ml_li (A : Abs) (p : Nat) : ∀ n, n ≤ 1296 → ∃ k, k ≤ n ∧ (itN (mlS A p) n (0, -9, -9)).1 = nI k ∧ (itN (liS A p) n (0, 5, 0)).1 = nI k ∧ (k = 0 → itN (mlS A p) n (0, -9, -9) = (0, -9, -9) ∧ itN (liS A p) n (0, 5, 0) = (0, 5, 0)) ∧ (¬ k = 0 → (itN (mlS A p) n (0, -9, -9)).2 = (itN (liS A p) n (0, 5, 0)).2) := by
  intro n
  induction n with
  | zero => intro _; exact ⟨0, Nat.le_refl 0, rfl, rfl, fun _ => ⟨rfl, rfl⟩, fun z => absurd rfl z⟩
  | succ n ih =>
    intro hn
    obtain ⟨k, hk, e1, e2, e3, e4⟩ := ih (by omega)
    rw [itN, itN]
    generalize itN (mlS A p) n (0, -9, -9) = x at e1 e3 e4
    generalize itN (liS A p) n (0, 5, 0) = y at e2 e3 e4
    unfold mlS liS
    by_cases q : fitA A n
    · rw [if_pos q, if_pos q]
      obtain ⟨v, hv, ev⟩ := dg_sm (r := n) (by omega) p
      refine ⟨k + 1, by omega, ?_, ?_, fun z => absurd z (by omega), fun _ => ?_⟩
      · show x.1 + 1 = _; rw [e1, nI_s1]
      · show y.1 + 1 = _; rw [e2, nI_s1]
      · show (if x.1 = 0 then _ else _, _) = (_, _)
        by_cases z : k = 0
        · obtain ⟨rfl, rfl⟩ := e3 z
          obtain ⟨m1, m2, m3⟩ := ml_sm v hv
          rw [ev]
          show (nI v, mxI (-9) (nI v)) = (mnI 5 (nI v), mxI 0 (nI v))
          rw [m1, m2, m3]
        · have hz : ¬ x.1 = 0 := fun y => z (nI_inj (b := 0) (e1.symm.trans y) (by omega) (by decide))
          rw [if_neg hz, e4 z]
    · rw [if_neg q, if_neg q]
      exact ⟨k, by omega, e1, e2, e3, e4⟩
abbrev mlA (A : Abs) (p : Nat) : Int32 × Int32 × Int32 := itN (mlS A p) 1296 (0, -9, -9)
theorem ml_A (A : Abs) (p : Nat) : (mlA A p).1 = (liA A p).1 ∧ (mlA A p).2.1 = (if (liA A p).1 = 0 then -9 else (liA A p).2.1) ∧ (mlA A p).2.2 = (if (liA A p).1 = 0 then -9 else (liA A p).2.2) := by
  obtain ⟨k, hk, e1, e2, e3, e4⟩ := ml_li A p 1296 (Nat.le_refl _)
  have e2' : (liA A p).1 = nI k := e2
  refine ⟨e1.trans e2.symm, ?_⟩
  rw [e2']
  by_cases z : k = 0
  · have := (e3 z).1
    rw [if_pos (by rw [z]; rfl), if_pos (by rw [z]; rfl)]
    show (itN (mlS A p) 1296 (0, -9, -9)).2.1 = _ ∧ (itN (mlS A p) 1296 (0, -9, -9)).2.2 = _
    rw [this]; exact ⟨rfl, rfl⟩
  · have hz : ¬ nI k = 0 := fun y => z (nI_inj (b := 0) y (by omega) (by decide))
    rw [if_neg hz, if_neg hz]
    have := e4 z
    exact ⟨congrArg Prod.fst this, congrArg Prod.snd this⟩
theorem mn_le {a x : Int32} : mnI a x = if a ≤ x then a else x := by
  unfold mnI
  by_cases z : a ≤ x
  · rw [if_pos z, if_neg (Int32.not_lt.mpr z)]
  · rw [if_neg z, if_pos (Int32.not_le.mp z)]
theorem mx_le {a x : Int32} : mxI a x = if x ≤ a then a else x := by
  unfold mxI
  by_cases z : x ≤ a
  · rw [if_pos z, if_neg (Int32.not_lt.mpr z)]
  · rw [if_neg z, if_pos (Int32.not_le.mp z)]
set_option maxRecDepth 100000 in
theorem b_X8_likings {S : Scr} {A : Abs} (p : Nat) (hp : p < 4) (w : Int32) (r : Nat) (hr : r < 1296) (a : Int32 × Int32 × Int32) (x : Value) (σ : Sto) {Q : Option Value → Sto → Prop} (h : RM A σ) (K : ∀ x, Ev S RX8 cX8_likings 8 (some .int) 3 31 [.ref 117, .int (nI p), .int w, .int (mlS A p r a).1, .int (mlS A p r a).2.1, .int (mlS A p r a).2.2, .int (nI (r + 1)), x] [] σ (Q)) : Ev S RX8 cX8_likings 8 (some .int) 3 31 [.ref 117, .int (nI p), .int w, .int a.1, .int a.2.1, .int a.2.2, .int (nI r), x] [] σ (Q) := by
  refine ev_iload_6 (pc := 31) dX8_likings_31 ?_
  refine ev_sipush (pc := 33) (v := 1296) dX8_likings_33 (by decide) ?_
  refine ev_icmp_ge (pc := 36) (tgt := 101) dX8_likings_36 (by decide) (fun h36 => by exact absurd h36 (nI_ge (a := r) (b := 1296) hr (by decide))) (fun h36 => ?_)
  refine ev_aload_n_0 (pc := 39) dX8_likings_39 ?_
  refine ev_iload_6 (pc := 40) dX8_likings_40 ?_
  refine ev_callV1 (pc := 42) dX8_likings_42 ml_X8_206 (m_X8_isSo r hr σ h) (by decide) ⟨_, rfl, rfl⟩ rfl (by decide) rfl (Nat.le_of_ble_eq_true rfl) ?_
  refine ev_if_eq (pc := 45) (tgt := 95) dX8_likings_45 (by decide) (fun h45 => ?_) (fun h45 => ?_)
  · skip
    refine ev_iinc_6 (pc := 95) (v := nI (r + 1)) dX8_likings_95 (nI_inc r) (by decide) ?_
    refine ev_goto (pc := 98) (tgt := 31) dX8_likings_98 (by decide) ?_
    exact ev_eq (by rw [show mlS A p r a = a from if_neg (bI0.mp h45)]) rfl rfl (K _)
  · skip
    refine ev_iload_6 (pc := 48) dX8_likings_48 ?_
    refine ev_iload_n_1 (pc := 50) dX8_likings_50 ?_
    refine ev_callS1 (pc := 51) dX8_likings_51 ml_X8_199 (m_X8_likeOf r hr p hp σ) rfl (by decide) rfl (Nat.le_of_ble_eq_true rfl) ?_
    refine ev_istore_7 (pc := 54) dX8_likings_54 (by decide) ?_
    refine ev_iload_n_3 (pc := 56) dX8_likings_56 ?_
    refine ev_if_eq (pc := 57) (tgt := 67) dX8_likings_57 (by decide) (fun h57 => ?_) (fun h57 => ?_)
    · skip
      refine ev_iload_7 (pc := 67) dX8_likings_67 ?_
      refine ev_goto (pc := 69) (tgt := 74) dX8_likings_69 (by decide) ?_
      refine ev_istore_4 (pc := 74) dX8_likings_74 (by decide) ?_
      refine ev_iload_7 (pc := 76) dX8_likings_76 ?_
      refine ev_iload_5 (pc := 78) dX8_likings_78 ?_
      refine ev_icmp_le (pc := 80) (tgt := 88) dX8_likings_80 (by decide) (fun h80 => ?_) (fun h80 => ?_)
      · skip
        refine ev_iload_5 (pc := 88) dX8_likings_88 ?_
        refine ev_istore_5 (pc := 90) dX8_likings_90 (by decide) ?_
        refine ev_iinc1_3 (pc := 92) dX8_likings_92 (by decide) ?_
        refine ev_iinc_6 (pc := 95) (v := nI (r + 1)) dX8_likings_95 (nI_inc r) (by decide) ?_
        refine ev_goto (pc := 98) (tgt := 31) dX8_likings_98 (by decide) ?_
        exact ev_eq (by rw [show mlS A p r a = _ from if_pos (Decidable.not_not.mp (fun z => h45 (bI0.mpr z)))]; simp only [h57, h80, mn_le, mx_le, ↓reduceIte]) rfl rfl (K (.int (dg r p)))
      · skip
        refine ev_iload_7 (pc := 83) dX8_likings_83 ?_
        refine ev_goto (pc := 85) (tgt := 90) dX8_likings_85 (by decide) ?_
        refine ev_istore_5 (pc := 90) dX8_likings_90 (by decide) ?_
        refine ev_iinc1_3 (pc := 92) dX8_likings_92 (by decide) ?_
        refine ev_iinc_6 (pc := 95) (v := nI (r + 1)) dX8_likings_95 (nI_inc r) (by decide) ?_
        refine ev_goto (pc := 98) (tgt := 31) dX8_likings_98 (by decide) ?_
        exact ev_eq (by rw [show mlS A p r a = _ from if_pos (Decidable.not_not.mp (fun z => h45 (bI0.mpr z)))]; simp only [h57, h80, mn_le, mx_le, ↓reduceIte]) rfl rfl (K (.int (dg r p)))
    · skip
      refine ev_iload_7 (pc := 60) dX8_likings_60 ?_
      refine ev_iload_4 (pc := 62) dX8_likings_62 ?_
      refine ev_icmp_ge (pc := 64) (tgt := 72) dX8_likings_64 (by decide) (fun h64 => ?_) (fun h64 => ?_)
      · skip
        refine ev_iload_4 (pc := 72) dX8_likings_72 ?_
        refine ev_istore_4 (pc := 74) dX8_likings_74 (by decide) ?_
        refine ev_iload_7 (pc := 76) dX8_likings_76 ?_
        refine ev_iload_5 (pc := 78) dX8_likings_78 ?_
        refine ev_icmp_le (pc := 80) (tgt := 88) dX8_likings_80 (by decide) (fun h80 => ?_) (fun h80 => ?_)
        · skip
          refine ev_iload_5 (pc := 88) dX8_likings_88 ?_
          refine ev_istore_5 (pc := 90) dX8_likings_90 (by decide) ?_
          refine ev_iinc1_3 (pc := 92) dX8_likings_92 (by decide) ?_
          refine ev_iinc_6 (pc := 95) (v := nI (r + 1)) dX8_likings_95 (nI_inc r) (by decide) ?_
          refine ev_goto (pc := 98) (tgt := 31) dX8_likings_98 (by decide) ?_
          exact ev_eq (by rw [show mlS A p r a = _ from if_pos (Decidable.not_not.mp (fun z => h45 (bI0.mpr z)))]; simp only [h57, h64, h80, mn_le, mx_le, ↓reduceIte]) rfl rfl (K (.int (dg r p)))
        · skip
          refine ev_iload_7 (pc := 83) dX8_likings_83 ?_
          refine ev_goto (pc := 85) (tgt := 90) dX8_likings_85 (by decide) ?_
          refine ev_istore_5 (pc := 90) dX8_likings_90 (by decide) ?_
          refine ev_iinc1_3 (pc := 92) dX8_likings_92 (by decide) ?_
          refine ev_iinc_6 (pc := 95) (v := nI (r + 1)) dX8_likings_95 (nI_inc r) (by decide) ?_
          refine ev_goto (pc := 98) (tgt := 31) dX8_likings_98 (by decide) ?_
          exact ev_eq (by rw [show mlS A p r a = _ from if_pos (Decidable.not_not.mp (fun z => h45 (bI0.mpr z)))]; simp only [h57, h64, h80, mn_le, mx_le, ↓reduceIte]) rfl rfl (K (.int (dg r p)))
      · skip
        refine ev_iload_7 (pc := 67) dX8_likings_67 ?_
        refine ev_goto (pc := 69) (tgt := 74) dX8_likings_69 (by decide) ?_
        refine ev_istore_4 (pc := 74) dX8_likings_74 (by decide) ?_
        refine ev_iload_7 (pc := 76) dX8_likings_76 ?_
        refine ev_iload_5 (pc := 78) dX8_likings_78 ?_
        refine ev_icmp_le (pc := 80) (tgt := 88) dX8_likings_80 (by decide) (fun h80 => ?_) (fun h80 => ?_)
        · skip
          refine ev_iload_5 (pc := 88) dX8_likings_88 ?_
          refine ev_istore_5 (pc := 90) dX8_likings_90 (by decide) ?_
          refine ev_iinc1_3 (pc := 92) dX8_likings_92 (by decide) ?_
          refine ev_iinc_6 (pc := 95) (v := nI (r + 1)) dX8_likings_95 (nI_inc r) (by decide) ?_
          refine ev_goto (pc := 98) (tgt := 31) dX8_likings_98 (by decide) ?_
          exact ev_eq (by rw [show mlS A p r a = _ from if_pos (Decidable.not_not.mp (fun z => h45 (bI0.mpr z)))]; simp only [h57, h64, h80, mn_le, mx_le, ↓reduceIte]) rfl rfl (K (.int (dg r p)))
        · skip
          refine ev_iload_7 (pc := 83) dX8_likings_83 ?_
          refine ev_goto (pc := 85) (tgt := 90) dX8_likings_85 (by decide) ?_
          refine ev_istore_5 (pc := 90) dX8_likings_90 (by decide) ?_
          refine ev_iinc1_3 (pc := 92) dX8_likings_92 (by decide) ?_
          refine ev_iinc_6 (pc := 95) (v := nI (r + 1)) dX8_likings_95 (nI_inc r) (by decide) ?_
          refine ev_goto (pc := 98) (tgt := 31) dX8_likings_98 (by decide) ?_
          exact ev_eq (by rw [show mlS A p r a = _ from if_pos (Decidable.not_not.mp (fun z => h45 (bI0.mpr z)))]; simp only [h57, h64, h80, mn_le, mx_le, ↓reduceIte]) rfl rfl (K (.int (dg r p)))
theorem m_X8_likings0 {S : Scr} {A : Abs} (p : Nat) (hp : p < 4) (σ : Sto) (h : RM A σ) : Mt S yX8_likings cX8_likings 8 (some .int) 3 [.ref 117, .int (nI p), .int 0] σ (PM A σ ((liA A p).1)) := by
  refine mt_of (ls := [.ref 117, .int (nI p), .int 0, .null, .null, .null, .null, .null]) (by decide) rfl (Nat.le_of_ble_eq_true rfl) (by simp [Value.category]) ?_
  refine ev_iload_n_1 (pc := 0) dX8_likings_0 ?_
  refine ev_callS1 (pc := 1) dX8_likings_1 ml_X8_151 (m_X8_isPart _ σ) rfl (by decide) rfl (Nat.le_of_ble_eq_true rfl) ?_
  rw [bI_t (okP_nI p hp)]
  refine ev_if_eq (pc := 4) (tgt := 16) dX8_likings_4 (by decide) (fun h4 => by exact absurd h4 (by decide)) (fun h4 => ?_)
  refine ev_iload_n_2 (pc := 7) dX8_likings_7 ?_
  refine ev_iconst (pc := 8) (v := 0) dX8_likings_8 (by decide) ?_
  refine ev_iconst (pc := 9) (v := 2) dX8_likings_9 (by decide) ?_
  refine ev_callS1 (pc := 10) dX8_likings_10 ml_X8_54 (m_X8_in _ _ _ σ) rfl (by decide) rfl (Nat.le_of_ble_eq_true rfl) ?_
  rw [show bI ((0 : Int32) ≤ 0 ∧ (0 : Int32) ≤ 2) = 1 from by decide]
  refine ev_if_ne (pc := 13) (tgt := 18) dX8_likings_13 (by decide) (fun h13 => ?_) (fun h13 => by exact absurd h13 (by decide))
  refine ev_iconst (pc := 18) (v := 0) dX8_likings_18 (by decide) ?_
  refine ev_istore_n_3 (pc := 19) dX8_likings_19 (by decide) ?_
  refine ev_bipush (pc := 20) (v := (-9)) dX8_likings_20 (by decide) ?_
  refine ev_istore_4 (pc := 22) dX8_likings_22 (by decide) ?_
  refine ev_bipush (pc := 24) (v := (-9)) dX8_likings_24 (by decide) ?_
  refine ev_istore_5 (pc := 26) dX8_likings_26 (by decide) ?_
  refine ev_iconst (pc := 28) (v := 0) dX8_likings_28 (by decide) ?_
  refine ev_istore_6 (pc := 29) dX8_likings_29 (by decide) ?_
  refine for_up 1296 (fun r a => ∀ x, Ev S RX8 cX8_likings 8 (some .int) 3 31 [.ref 117, .int (nI p), .int 0, .int a.1, .int a.2.1, .int a.2.2, .int (nI r), x] [] σ (PM A σ ((liA A p).1))) (mlS A p) (fun r a hr K x => b_X8_likings p hp 0 r hr a x σ h K) (0, -9, -9) (fun x => ?_) _
  show Ev S RX8 cX8_likings 8 (some .int) 3 31 [.ref 117, .int (nI p), .int 0, .int (mlA A p).1, .int (mlA A p).2.1, .int (mlA A p).2.2, .int (nI 1296), x] [] σ (PM A σ ((liA A p).1))
  have hM := ml_A A p
  generalize mlA A p = ma at hM
  refine ev_iload_6 (pc := 31) dX8_likings_31 ?_
  refine ev_sipush (pc := 33) (v := 1296) dX8_likings_33 (by decide) ?_
  refine ev_icmp_ge (pc := 36) (tgt := 101) dX8_likings_36 (by decide) (fun h36 => ?_) (fun h36 => by exact absurd h36 (by decide))
  refine ev_iload_n_2 (pc := 101) dX8_likings_101 ?_
  refine ev_if_ne (pc := 102) (tgt := 109) dX8_likings_102 (by decide) (fun h102 => by exact absurd h102 (by decide)) (fun h102 => ?_)
  refine ev_iload_n_3 (pc := 105) dX8_likings_105 ?_
  refine ev_goto (pc := 106) (tgt := 121) dX8_likings_106 (by decide) ?_
  exact ev_ireturn (pc := 121) dX8_likings_121 rfl rfl (PM.id h hM.1)
theorem m_X8_likings1 {S : Scr} {A : Abs} (p : Nat) (hp : p < 4) (σ : Sto) (h : RM A σ) : Mt S yX8_likings cX8_likings 8 (some .int) 3 [.ref 117, .int (nI p), .int 1] σ (PM A σ (if (liA A p).1 = 0 then -9 else (liA A p).2.1)) := by
  refine mt_of (ls := [.ref 117, .int (nI p), .int 1, .null, .null, .null, .null, .null]) (by decide) rfl (Nat.le_of_ble_eq_true rfl) (by simp [Value.category]) ?_
  refine ev_iload_n_1 (pc := 0) dX8_likings_0 ?_
  refine ev_callS1 (pc := 1) dX8_likings_1 ml_X8_151 (m_X8_isPart _ σ) rfl (by decide) rfl (Nat.le_of_ble_eq_true rfl) ?_
  rw [bI_t (okP_nI p hp)]
  refine ev_if_eq (pc := 4) (tgt := 16) dX8_likings_4 (by decide) (fun h4 => by exact absurd h4 (by decide)) (fun h4 => ?_)
  refine ev_iload_n_2 (pc := 7) dX8_likings_7 ?_
  refine ev_iconst (pc := 8) (v := 0) dX8_likings_8 (by decide) ?_
  refine ev_iconst (pc := 9) (v := 2) dX8_likings_9 (by decide) ?_
  refine ev_callS1 (pc := 10) dX8_likings_10 ml_X8_54 (m_X8_in _ _ _ σ) rfl (by decide) rfl (Nat.le_of_ble_eq_true rfl) ?_
  rw [show bI ((0 : Int32) ≤ 1 ∧ (1 : Int32) ≤ 2) = 1 from by decide]
  refine ev_if_ne (pc := 13) (tgt := 18) dX8_likings_13 (by decide) (fun h13 => ?_) (fun h13 => by exact absurd h13 (by decide))
  refine ev_iconst (pc := 18) (v := 0) dX8_likings_18 (by decide) ?_
  refine ev_istore_n_3 (pc := 19) dX8_likings_19 (by decide) ?_
  refine ev_bipush (pc := 20) (v := (-9)) dX8_likings_20 (by decide) ?_
  refine ev_istore_4 (pc := 22) dX8_likings_22 (by decide) ?_
  refine ev_bipush (pc := 24) (v := (-9)) dX8_likings_24 (by decide) ?_
  refine ev_istore_5 (pc := 26) dX8_likings_26 (by decide) ?_
  refine ev_iconst (pc := 28) (v := 0) dX8_likings_28 (by decide) ?_
  refine ev_istore_6 (pc := 29) dX8_likings_29 (by decide) ?_
  refine for_up 1296 (fun r a => ∀ x, Ev S RX8 cX8_likings 8 (some .int) 3 31 [.ref 117, .int (nI p), .int 1, .int a.1, .int a.2.1, .int a.2.2, .int (nI r), x] [] σ (PM A σ (if (liA A p).1 = 0 then -9 else (liA A p).2.1))) (mlS A p) (fun r a hr K x => b_X8_likings p hp 1 r hr a x σ h K) (0, -9, -9) (fun x => ?_) _
  show Ev S RX8 cX8_likings 8 (some .int) 3 31 [.ref 117, .int (nI p), .int 1, .int (mlA A p).1, .int (mlA A p).2.1, .int (mlA A p).2.2, .int (nI 1296), x] [] σ (PM A σ (if (liA A p).1 = 0 then -9 else (liA A p).2.1))
  have hM := ml_A A p
  generalize mlA A p = ma at hM
  refine ev_iload_6 (pc := 31) dX8_likings_31 ?_
  refine ev_sipush (pc := 33) (v := 1296) dX8_likings_33 (by decide) ?_
  refine ev_icmp_ge (pc := 36) (tgt := 101) dX8_likings_36 (by decide) (fun h36 => ?_) (fun h36 => by exact absurd h36 (by decide))
  refine ev_iload_n_2 (pc := 101) dX8_likings_101 ?_
  refine ev_if_ne (pc := 102) (tgt := 109) dX8_likings_102 (by decide) (fun h102 => ?_) (fun h102 => by exact absurd h102 (by decide))
  refine ev_iload_n_2 (pc := 109) dX8_likings_109 ?_
  refine ev_iconst (pc := 110) (v := 1) dX8_likings_110 (by decide) ?_
  refine ev_icmp_ne (pc := 111) (tgt := 119) dX8_likings_111 (by decide) (fun h111 => by exact absurd h111 (by decide)) (fun h111 => ?_)
  refine ev_iload_4 (pc := 114) dX8_likings_114 ?_
  refine ev_goto (pc := 116) (tgt := 121) dX8_likings_116 (by decide) ?_
  exact ev_ireturn (pc := 121) dX8_likings_121 rfl rfl (PM.id h hM.2.1)
theorem m_X8_likings2 {S : Scr} {A : Abs} (p : Nat) (hp : p < 4) (σ : Sto) (h : RM A σ) : Mt S yX8_likings cX8_likings 8 (some .int) 3 [.ref 117, .int (nI p), .int 2] σ (PM A σ (if (liA A p).1 = 0 then -9 else (liA A p).2.2)) := by
  refine mt_of (ls := [.ref 117, .int (nI p), .int 2, .null, .null, .null, .null, .null]) (by decide) rfl (Nat.le_of_ble_eq_true rfl) (by simp [Value.category]) ?_
  refine ev_iload_n_1 (pc := 0) dX8_likings_0 ?_
  refine ev_callS1 (pc := 1) dX8_likings_1 ml_X8_151 (m_X8_isPart _ σ) rfl (by decide) rfl (Nat.le_of_ble_eq_true rfl) ?_
  rw [bI_t (okP_nI p hp)]
  refine ev_if_eq (pc := 4) (tgt := 16) dX8_likings_4 (by decide) (fun h4 => by exact absurd h4 (by decide)) (fun h4 => ?_)
  refine ev_iload_n_2 (pc := 7) dX8_likings_7 ?_
  refine ev_iconst (pc := 8) (v := 0) dX8_likings_8 (by decide) ?_
  refine ev_iconst (pc := 9) (v := 2) dX8_likings_9 (by decide) ?_
  refine ev_callS1 (pc := 10) dX8_likings_10 ml_X8_54 (m_X8_in _ _ _ σ) rfl (by decide) rfl (Nat.le_of_ble_eq_true rfl) ?_
  rw [show bI ((0 : Int32) ≤ 2 ∧ (2 : Int32) ≤ 2) = 1 from by decide]
  refine ev_if_ne (pc := 13) (tgt := 18) dX8_likings_13 (by decide) (fun h13 => ?_) (fun h13 => by exact absurd h13 (by decide))
  refine ev_iconst (pc := 18) (v := 0) dX8_likings_18 (by decide) ?_
  refine ev_istore_n_3 (pc := 19) dX8_likings_19 (by decide) ?_
  refine ev_bipush (pc := 20) (v := (-9)) dX8_likings_20 (by decide) ?_
  refine ev_istore_4 (pc := 22) dX8_likings_22 (by decide) ?_
  refine ev_bipush (pc := 24) (v := (-9)) dX8_likings_24 (by decide) ?_
  refine ev_istore_5 (pc := 26) dX8_likings_26 (by decide) ?_
  refine ev_iconst (pc := 28) (v := 0) dX8_likings_28 (by decide) ?_
  refine ev_istore_6 (pc := 29) dX8_likings_29 (by decide) ?_
  refine for_up 1296 (fun r a => ∀ x, Ev S RX8 cX8_likings 8 (some .int) 3 31 [.ref 117, .int (nI p), .int 2, .int a.1, .int a.2.1, .int a.2.2, .int (nI r), x] [] σ (PM A σ (if (liA A p).1 = 0 then -9 else (liA A p).2.2))) (mlS A p) (fun r a hr K x => b_X8_likings p hp 2 r hr a x σ h K) (0, -9, -9) (fun x => ?_) _
  show Ev S RX8 cX8_likings 8 (some .int) 3 31 [.ref 117, .int (nI p), .int 2, .int (mlA A p).1, .int (mlA A p).2.1, .int (mlA A p).2.2, .int (nI 1296), x] [] σ (PM A σ (if (liA A p).1 = 0 then -9 else (liA A p).2.2))
  have hM := ml_A A p
  generalize mlA A p = ma at hM
  refine ev_iload_6 (pc := 31) dX8_likings_31 ?_
  refine ev_sipush (pc := 33) (v := 1296) dX8_likings_33 (by decide) ?_
  refine ev_icmp_ge (pc := 36) (tgt := 101) dX8_likings_36 (by decide) (fun h36 => ?_) (fun h36 => by exact absurd h36 (by decide))
  refine ev_iload_n_2 (pc := 101) dX8_likings_101 ?_
  refine ev_if_ne (pc := 102) (tgt := 109) dX8_likings_102 (by decide) (fun h102 => ?_) (fun h102 => by exact absurd h102 (by decide))
  refine ev_iload_n_2 (pc := 109) dX8_likings_109 ?_
  refine ev_iconst (pc := 110) (v := 1) dX8_likings_110 (by decide) ?_
  refine ev_icmp_ne (pc := 111) (tgt := 119) dX8_likings_111 (by decide) (fun h111 => ?_) (fun h111 => by exact absurd h111 (by decide))
  refine ev_iload_5 (pc := 119) dX8_likings_119 ?_
  exact ev_ireturn (pc := 121) dX8_likings_121 rfl rfl (PM.id h hM.2.2)
set_option maxRecDepth 100000 in
theorem m_X8_likings_0 {S : Scr}  (p w : Int32) (hb : ¬ (okP p ∧ ¬ w < 0 ∧ w ≤ 2)) (σ : Sto) : Mt S yX8_likings cX8_likings 8 (some .int) 3 [.ref 117, .int p, .int w] σ (Is (some (.int (-1))) σ) := by
  refine mt_of (ls := [.ref 117, .int p, .int w, .null, .null, .null, .null, .null]) (by decide) rfl (Nat.le_of_ble_eq_true rfl) (by simp [Value.category]) ?_
  refine ev_iload_n_1 (pc := 0) dX8_likings_0 ?_
  refine ev_callS1 (pc := 1) dX8_likings_1 ml_X8_151 (m_X8_isPart _ σ) rfl (by decide) rfl (Nat.le_of_ble_eq_true rfl) ?_
  refine ev_if_eq (pc := 4) (tgt := 16) dX8_likings_4 (by decide) (fun h4 => ?_) (fun h4 => ?_)
  · skip
    refine ev_iconst (pc := 16) (v := (-1)) dX8_likings_16 (by decide) ?_
    exact ev_ireturn (pc := 17) dX8_likings_17 rfl rfl (⟨rfl, rfl⟩)
  · skip
    refine ev_iload_n_2 (pc := 7) dX8_likings_7 ?_
    refine ev_iconst (pc := 8) (v := 0) dX8_likings_8 (by decide) ?_
    refine ev_iconst (pc := 9) (v := 2) dX8_likings_9 (by decide) ?_
    refine ev_callS1 (pc := 10) dX8_likings_10 ml_X8_54 (m_X8_in _ _ _ σ) rfl (by decide) rfl (Nat.le_of_ble_eq_true rfl) ?_
    refine ev_if_ne (pc := 13) (tgt := 18) dX8_likings_13 (by decide) (fun h13 => ?_) (fun h13 => ?_)
    · skip
      exact absurd ⟨Decidable.not_not.mp (fun z => h4 (bI_f z)), Int32.not_lt.mpr (Decidable.not_not.mp (fun z => h13 (bI_f z))).1, (Decidable.not_not.mp (fun z => h13 (bI_f z))).2⟩ hb
    · skip
      refine ev_iconst (pc := 16) (v := (-1)) dX8_likings_16 (by decide) ?_
      exact ev_ireturn (pc := 17) dX8_likings_17 rfl rfl (⟨rfl, rfl⟩)
