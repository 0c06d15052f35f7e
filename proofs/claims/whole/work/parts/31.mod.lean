/-! ===== the reference: how its cells hold the kitchen ===== -/
def mrow (σ : Sto) (a off n : Nat) (s : Scn) : Prop := (∀ p, p < 4 → σ.1 a (off + p) = s.1 p) ∧ σ.1 a (off + 4) = cldD s.2.1 ∧ ∀ b, b < n → σ.1 a (off + 5 + b) = s.2.2 b
def brM (A : Abs) (σ : Sto) : Prop := σ.1 117 0 = nI (aN A) ∧ ∀ b, b < aN A → (∀ p, p < 4 → σ.1 118 (4 * b + p) = aL A b p) ∧ σ.1 119 b = aB A b
def pastM (A : Abs) (σ : Sto) : Prop := σ.1 117 5 = nI (aP A).length ∧ ∀ i s, (aP A)[i]? = some s → mrow σ 121 (11 * ((aP A).length - 1 - i)) (aN A) s
def imgM (A : Abs) (σ : Sto) : Prop := ∀ i, i < 2 → (∀ s, aI A i = some s → σ.1 123 i = 1 ∧ mrow σ 122 (11 * i) (aN A) s) ∧ (aI A i = none → σ.1 123 i = 0)
def seenM (A : Abs) (σ : Sto) : Prop := σ.1 117 8 = nI (aS A).length ∧ ∀ i e, (aS A)[i]? = some e → (∀ p, p < 4 → σ.1 124 (4 * i + p) = e.1 p) ∧ σ.1 125 i = e.2
def txM (A : Abs) (σ : Sto) : Prop := σ.1 117 13 = nI (aT A).1 ∧ ∀ i, i < (aT A).1 → σ.1 126 i = (aT A).2 i
def RM (A : Abs) (σ : Sto) : Prop := AI A ∧ brM A σ ∧ mrow σ 120 0 (aN A) (aC A) ∧ pastM A σ ∧ imgM A σ ∧ seenM A σ ∧ txM A σ ∧ σ.2 117 = aR A
/-- the class's cells are as they were -/
def FrM (σ τ : Sto) : Prop := (∀ c, c < 117 → τ.1 c = σ.1 c) ∧ ∀ c, c ≠ 117 → τ.2 c = σ.2 c
theorem FrM.rf (σ : Sto) : FrM σ σ := ⟨fun _ _ => rfl, fun _ _ => rfl⟩
theorem FrM.tr {a b c : Sto} (h : FrM a b) (g : FrM b c) : FrM a c := ⟨fun k hk => (g.1 k hk).trans (h.1 k hk), fun k hk => (g.2 k hk).trans (h.2 k hk)⟩
theorem FrM.of {σ τ : Sto} (h1 : ∀ c, c < 117 → τ.1 c = σ.1 c) (h2 : τ.2 = σ.2) : FrM σ τ := ⟨h1, fun _ _ => by rw [h2]⟩
theorem frM_wr {σ : Sto} {k i : Nat} {x : Int32} (h : 117 ≤ k) : FrM σ (wr σ k i x) := FrM.of (fun c hc => wr_ne (by omega)) rfl
theorem RC.fm {A : Abs} {σ τ : Sto} (h : RC A σ) (g : FrM σ τ) : RC A τ := h.mv ⟨g.2 0 (by decide), fun c j hr => by rw [g.1 c (by omega)]⟩ (h.2.2.2.2.2.2.2.2.1.mv (by rw [g.1 18 (by decide)]) (g.1 20 (by decide)) (g.1 24 (by decide)))
theorem mrow.mv {σ τ : Sto} {a off n : Nat} {s : Scn} (h : mrow σ a off n s) (g : τ.1 a = σ.1 a) : mrow τ a off n s := by unfold mrow; rw [g]; exact h
theorem brM.mv {A : Abs} {σ τ : Sto} (h : brM A σ) (g0 : τ.1 117 0 = σ.1 117 0) (g1 : τ.1 118 = σ.1 118) (g2 : τ.1 119 = σ.1 119) : brM A τ := by unfold brM; rw [g0, g1, g2]; exact h
theorem pastM.mv {A : Abs} {σ τ : Sto} (h : pastM A σ) (g0 : τ.1 117 5 = σ.1 117 5) (g1 : τ.1 121 = σ.1 121) : pastM A τ := ⟨g0.trans h.1, fun i s hs => (h.2 i s hs).mv g1⟩
theorem imgM.mv {A : Abs} {σ τ : Sto} (h : imgM A σ) (g0 : τ.1 123 = σ.1 123) (g1 : τ.1 122 = σ.1 122) : imgM A τ := fun i hi => ⟨fun s hs => ⟨by rw [g0]; exact ((h i hi).1 s hs).1, ((h i hi).1 s hs).2.mv g1⟩, fun hs => by rw [g0]; exact (h i hi).2 hs⟩
theorem seenM.mv {A : Abs} {σ τ : Sto} (h : seenM A σ) (g0 : τ.1 117 8 = σ.1 117 8) (g1 : τ.1 124 = σ.1 124) (g2 : τ.1 125 = σ.1 125) : seenM A τ := by unfold seenM; rw [g0, g1, g2]; exact h
theorem txM.mv {A : Abs} {σ τ : Sto} (h : txM A σ) (g0 : τ.1 117 13 = σ.1 117 13) (g1 : τ.1 126 = σ.1 126) : txM A τ := by unfold txM; rw [g0, g1]; exact h
/-- the reference's scratch: what is tried now, counts, what reading has said, the reader's own numbers -/
def Mls (σ τ : Sto) : Prop := τ.2 = σ.2 ∧ (∀ c, c < 117 → τ.1 c = σ.1 c) ∧ (∀ c, 118 ≤ c → c ≤ 126 → τ.1 c = σ.1 c) ∧ ∀ j, (j = 0 ∨ j = 5 ∨ j = 8 ∨ j = 13) → τ.1 117 j = σ.1 117 j
theorem Mls.rf (σ : Sto) : Mls σ σ := ⟨rfl, fun _ _ => rfl, fun _ _ _ => rfl, fun _ _ => rfl⟩
theorem Mls.tr {a b c : Sto} (h : Mls a b) (g : Mls b c) : Mls a c := ⟨g.1.trans h.1, fun k hk => (g.2.1 k hk).trans (h.2.1 k hk), fun k h1 h2 => (g.2.2.1 k h1 h2).trans (h.2.2.1 k h1 h2), fun j hj => (g.2.2.2 j hj).trans (h.2.2.2 j hj)⟩
theorem Mls.fr {σ τ : Sto} (h : Mls σ τ) : FrM σ τ := FrM.of h.2.1 h.1
theorem RM.mv {A : Abs} {σ τ : Sto} (h : RM A σ) (g : Mls σ τ) : RM A τ := by
  obtain ⟨h1, b, c, p, i, s, t, r⟩ := h
  obtain ⟨g1, -, g3, g4⟩ := g
  exact ⟨h1, b.mv (g4 0 (by decide)) (g3 118 (by decide) (by decide)) (g3 119 (by decide) (by decide)), c.mv (g3 120 (by decide) (by decide)), p.mv (g4 5 (by decide)) (g3 121 (by decide) (by decide)), i.mv (g3 123 (by decide) (by decide)) (g3 122 (by decide) (by decide)), s.mv (g4 8 (by decide)) (g3 124 (by decide) (by decide)) (g3 125 (by decide) (by decide)), t.mv (g4 13 (by decide)) (g3 126 (by decide) (by decide)), by rw [g1]; exact r⟩
theorem RM.n6 {A : Abs} {σ : Sto} (h : RM A σ) : aN A ≤ 6 := h.1.1
theorem RM.m {A : Abs} {σ : Sto} (h : RM A σ) : σ.1 117 0 = nI (aN A) := h.2.1.1
theorem nI_mul (a b : Nat) : nI a * nI b = nI (a * b) := (Int32.ofNat_mul a b).symm
theorem nI_zadd (a : Nat) : (0 : Int32) + nI a = nI a := Int32.zero_add _
theorem nI_addz (a : Nat) : nI a + (0 : Int32) = nI a := Int32.add_zero _
/-! numbers of offs -/
def fr (x : Int32) : Int32 := if 0 ≤ x then x else -x
theorem fr_ab (x : Int32) : fr x = ab x := by unfold fr ab; rw [Int32.zero_sub]
def wmS (o : Nat → Int32) (i w : Nat) : Nat := if fr (o (i + 1)) ≤ fr (o w) then w else i + 1
def wmB (o : Nat → Int32) : Nat := wmS o 2 (wmS o 1 (wmS o 0 0))
def mienM (o : Nat → Int32) (bl : Int32) : Int32 := if bl < fr (o (wmB o)) then (if o (wmB o) ≤ 0 then nI (2 + 2 * wmB o) else nI (1 + 2 * wmB o)) else 0
def mnO (o : Nat → Int32) (i : Nat) (a : Int32 × Int32) : Int32 × Int32 := if ab (o i) ≤ a.1 then a else (ab (o i), 2 * nI i + (if o i ≤ 0 then 2 else 1))
def mienO (o : Nat → Int32) (bl : Int32) : Int32 := (mnO o 3 (mnO o 2 (mnO o 1 (mnO o 0 (bl, 0))))).2
theorem mienD_O (l : Nat → Int32) (bl : Int32) (pot : Nat → Int32) (c : Int32) : mienD l bl pot c = mienO (offD l pot c) bl := rfl
/-- the first of the greatest, both ways -/
theorem mien_eq (o : Nat → Int32) (bl : Int32) : mienM o bl = mienO o bl := by
  have key : ∀ w, (w = 0 ∨ w = 1 ∨ w = 2 ∨ w = 3) → (∀ i, i < w → (ab (o i)).toInt < (ab (o w)).toInt) → (∀ i, i < 4 → (ab (o i)).toInt ≤ (ab (o w)).toInt) → (if bl < ab (o w) then (if o w ≤ 0 then nI (2 + 2 * w) else nI (1 + 2 * w)) else 0) = mienO o bl := by
    intro w hw h1 h2
    have g0 := h2 0 (by decide)
    have g1 := h2 1 (by decide)
    have g2 := h2 2 (by decide)
    have g3 := h2 3 (by decide)
    have ec : ∀ i, i < 4 → (if o i ≤ 0 then nI (2 + 2 * i) else nI (1 + 2 * i)) = 2 * nI i + (if o i ≤ 0 then 2 else 1) := by
      intro i hi
      have t : ∀ i, i < 4 → nI (2 + 2 * i) = 2 * nI i + 2 ∧ nI (1 + 2 * i) = 2 * nI i + 1 := by decide +kernel
      by_cases q : o i ≤ 0
      · rw [if_pos q, if_pos q]; exact (t i hi).1
      · rw [if_neg q, if_neg q]; exact (t i hi).2
    rw [ec w (by omega)]
    unfold mienO
    -- what the class holds behind each part
    have st : ∀ (i : Nat) (a : Int32 × Int32), mnO o i a = if (ab (o i)).toInt ≤ a.1.toInt then a else (ab (o i), 2 * nI i + (if o i ≤ 0 then 2 else 1)) := by
      intro i a
      unfold mnO
      by_cases q : ab (o i) ≤ a.1
      · rw [if_pos q, if_pos (tI_le.mp q)]
      · rw [if_neg q, if_neg (fun z => q (tI_le.mpr z))]
    by_cases hb : bl < ab (o w)
    · rw [if_pos hb]
      have hb' := tI_lt.mp hb
      have lo : ∀ i, i < 4 → ∀ a : Int32 × Int32, i < w → a.1.toInt < (ab (o w)).toInt → (mnO o i a).1.toInt < (ab (o w)).toInt := by
        intro i hi a hiw ha
        rw [st]
        split
        · exact ha
        · exact h1 i hiw
      have mid : ∀ a : Int32 × Int32, a.1.toInt < (ab (o w)).toInt → mnO o w a = (ab (o w), 2 * nI w + (if o w ≤ 0 then 2 else 1)) := by
        intro a ha
        rw [st, if_neg (by omega)]
      have hi : ∀ i, i < 4 → mnO o i (ab (o w), 2 * nI w + (if o w ≤ 0 then 2 else 1)) = (ab (o w), 2 * nI w + (if o w ≤ 0 then 2 else 1)) := by
        intro i hi
        rw [st, if_pos (h2 i hi)]
      have e0 : ((bl, 0) : Int32 × Int32).1.toInt < (ab (o w)).toInt := hb'
      generalize ((bl, 0) : Int32 × Int32) = x0 at e0
      rcases hw with rfl | rfl | rfl | rfl
      · rw [mid x0 e0, hi 1 (by decide), hi 2 (by decide), hi 3 (by decide)]
      · have e1 := lo 0 (by decide) x0 (by decide) e0
        generalize mnO o 0 x0 = x1 at e1
        rw [mid x1 e1, hi 2 (by decide), hi 3 (by decide)]
      · have e1 := lo 0 (by decide) x0 (by decide) e0
        generalize mnO o 0 x0 = x1 at e1
        have e2 := lo 1 (by decide) x1 (by decide) e1
        generalize mnO o 1 x1 = x2 at e2
        rw [mid x2 e2, hi 3 (by decide)]
      · have e1 := lo 0 (by decide) x0 (by decide) e0
        generalize mnO o 0 x0 = x1 at e1
        have e2 := lo 1 (by decide) x1 (by decide) e1
        generalize mnO o 1 x1 = x2 at e2
        have e3 := lo 2 (by decide) x2 (by decide) e2
        generalize mnO o 2 x2 = x3 at e3
        rw [mid x3 e3]
    · rw [if_neg hb]
      have hb' : (ab (o w)).toInt ≤ bl.toInt := by rw [tI_lt] at hb; omega
      have no : ∀ i, i < 4 → mnO o i (bl, 0) = (bl, 0) := by
        intro i hi
        have := h2 i hi
        rw [st, if_pos (by show (ab (o i)).toInt ≤ bl.toInt; omega)]
      rw [no 0 (by decide), no 1 (by decide), no 2 (by decide), no 3 (by decide)]
  unfold mienM
  rw [fr_ab]
  apply key
  · unfold wmB wmS
    repeat' split
    all_goals first | exact Or.inl rfl | exact Or.inr (Or.inl rfl) | exact Or.inr (Or.inr (Or.inl rfl)) | exact Or.inr (Or.inr (Or.inr rfl))
  all_goals
    have st : ∀ (i w : Nat), wmS o i w = if (ab (o (i + 1))).toInt ≤ (ab (o w)).toInt then w else i + 1 := by
      intro i w
      unfold wmS
      rw [fr_ab, fr_ab]
      by_cases q : ab (o (i + 1)) ≤ ab (o w)
      · rw [if_pos q, if_pos (tI_le.mp q)]
      · rw [if_neg q, if_neg (fun z => q (tI_le.mpr z))]
    have inv : ∀ k, k < 4 → (∀ i, i < (if k = 0 then 0 else if k = 1 then wmS o 0 0 else if k = 2 then wmS o 1 (wmS o 0 0) else wmB o) → True) := fun _ _ _ _ => trivial
    have s1 : wmS o 0 0 ≤ 1 ∧ (∀ i, i < wmS o 0 0 → (ab (o i)).toInt < (ab (o (wmS o 0 0))).toInt) ∧ (∀ i, i ≤ 1 → (ab (o i)).toInt ≤ (ab (o (wmS o 0 0))).toInt) := by
      rw [st]
      split
      · next q => exact ⟨by decide, fun i hi => absurd hi (Nat.not_lt_zero i), fun i hi => by rcases (show i = 0 ∨ i = 1 by omega) with rfl | rfl; exact Int.le_refl _; exact q⟩
      · next q => exact ⟨by decide, fun i hi => by obtain rfl : i = 0 := by omega
                                                   omega, fun i hi => by rcases (show i = 0 ∨ i = 1 by omega) with rfl | rfl; omega; exact Int.le_refl _⟩
    have up : ∀ k w, w ≤ k → (∀ i, i < w → (ab (o i)).toInt < (ab (o w)).toInt) → (∀ i, i ≤ k → (ab (o i)).toInt ≤ (ab (o w)).toInt) → wmS o k w ≤ k + 1 ∧ (∀ i, i < wmS o k w → (ab (o i)).toInt < (ab (o (wmS o k w))).toInt) ∧ (∀ i, i ≤ k + 1 → (ab (o i)).toInt ≤ (ab (o (wmS o k w))).toInt) := by
      intro k w hw a1 a2
      rw [st]
      split
      · next q =>
        refine ⟨by omega, a1, fun i hi => ?_⟩
        rcases Nat.lt_or_ge i (k + 1) with z | z
        · exact a2 i (by omega)
        · obtain rfl : i = k + 1 := by omega
          exact q
      · next q =>
        refine ⟨Nat.le_refl _, fun i hi => ?_, fun i hi => ?_⟩
        · have := a2 i (by omega); omega
        · rcases Nat.lt_or_ge i (k + 1) with z | z
          · have := a2 i (by omega); omega
          · obtain rfl : i = k + 1 := by omega
            exact Int.le_refl _
    have s2 := up 1 _ s1.1 s1.2.1 s1.2.2
    have s3 := up 2 _ s2.1 s2.2.1 s2.2.2
  · exact s3.2.1
  · intro i hi; exact s3.2.2 i (by omega)
