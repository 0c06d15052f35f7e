/-! ===== what a state IS: the kitchen in plain words, and how the class's cells hold it ===== -/
/-- the pot, colds, what was shown -/
abbrev Scn : Type := (Nat → Int32) × (Nat → Int32) × (Nat → Int32)
/-- brothers, likes, blunt; now; the past (latest first); images; what was seen; the text; the trace -/
abbrev Abs : Type := Nat × (Nat → Nat → Int32) × (Nat → Int32) × Scn × List Scn × (Nat → Option Scn) × List ((Nat → Int32) × Int32) × (Nat × (Nat → Int32)) × Int64
abbrev aN (A : Abs) : Nat := A.1
abbrev aL (A : Abs) : Nat → Nat → Int32 := A.2.1
abbrev aB (A : Abs) : Nat → Int32 := A.2.2.1
abbrev aC (A : Abs) : Scn := A.2.2.2.1
abbrev aP (A : Abs) : List Scn := A.2.2.2.2.1
abbrev aI (A : Abs) : Nat → Option Scn := A.2.2.2.2.2.1
abbrev aS (A : Abs) : List ((Nat → Int32) × Int32) := A.2.2.2.2.2.2.1
abbrev aT (A : Abs) : Nat × (Nat → Int32) := A.2.2.2.2.2.2.2.1
abbrev aR (A : Abs) : Int64 := A.2.2.2.2.2.2.2.2
def okS (s : Scn) : Prop := (∀ p, p < 4 → ∃ v, v ≤ 5 ∧ s.1 p = nI v) ∧ ∀ b, b < 6 → s.2.1 b = 0 ∨ s.2.1 b = 1
/-- what holds of every kitchen -/
def AI (A : Abs) : Prop := aN A ≤ 6 ∧ (∀ b, b < aN A → (∀ p, p < 4 → ∃ v, v ≤ 5 ∧ aL A b p = nI v) ∧ ∃ v, v ≤ 2 ∧ aB A b = nI v) ∧ okS (aC A) ∧ (∀ s ∈ aP A, okS s) ∧ (∀ i s, aI A i = some s → okS s) ∧ (∀ e ∈ aS A, ∀ p, p < 4 → ∃ v, v ≤ 5 ∧ e.1 p = nI v) ∧ (aP A).length ≤ 10 ∧ (aS A).length ≤ 4 ∧ (aT A).1 ≤ 120
def scR (σ : Sto) (n k : Nat) (s : Scn) : Prop := (∀ p, p < 4 → σ.1 (k + 1) p = s.1 p) ∧ (∀ b, b < 6 → σ.1 (k + 2) b = s.2.1 b) ∧ ∀ b, b < n → σ.1 (k + 3) b = s.2.2 b
def pastR (A : Abs) (σ : Sto) : Prop := ∃ nx, nx < 10 ∧ σ.1 9 1 = nI nx ∧ σ.1 9 2 = nI (aP A).length ∧ ∀ i s, (aP A)[i]? = some s → scR σ (aN A) (55 + 4 * ((nx + 9 - i) % 10)) s
def imgR (A : Abs) (σ : Sto) : Prop := ∀ i, i < 2 → (∀ s, aI A i = some s → σ.1 12 i = 1 ∧ scR σ (aN A) (47 + 4 * i) s) ∧ (aI A i = none → σ.1 12 i = 0)
def seenR (A : Abs) (σ : Sto) : Prop := σ.1 13 2 = nI (aS A).length ∧ ∀ i e, (aS A)[i]? = some e → (∀ p, p < 4 → σ.1 (101 + i) p = e.1 p) ∧ σ.1 14 i = e.2
def brR (A : Abs) (σ : Sto) : Prop := σ.1 5 1 = nI (aN A) ∧ ∀ b, b < aN A → (∀ p, p < 4 → σ.1 (25 + 2 * b + 1) p = aL A b p) ∧ σ.1 (25 + 2 * b) 1 = aB A b
def txR (A : Abs) (σ : Sto) : Prop := σ.1 1 1 = nI (aT A).1 ∧ ∀ i, i < (aT A).1 → σ.1 2 i = (aT A).2 i
/-- the class holds the kitchen A -/
def RC (A : Abs) (σ : Sto) : Prop := AI A ∧ brR A σ ∧ scR σ (aN A) 39 (aC A) ∧ pastR A σ ∧ imgR A σ ∧ seenR A σ ∧ txR A σ ∧ σ.2 0 = aR A ∧ PI σ ∧ σ.1 37 1 = 0
/-- the reference's cells are as they were -/
def FrC (σ τ : Sto) : Prop := (∀ c, 117 ≤ c → τ.1 c = σ.1 c) ∧ ∀ c, c ≠ 0 → τ.2 c = σ.2 c
theorem FrC.rf (σ : Sto) : FrC σ σ := ⟨fun _ _ => rfl, fun _ _ => rfl⟩
theorem FrC.tr {a b c : Sto} (h : FrC a b) (g : FrC b c) : FrC a c := ⟨fun k hk => (g.1 k hk).trans (h.1 k hk), fun k hk => (g.2 k hk).trans (h.2 k hk)⟩
/-- cells that hold the kitchen (the others are scratch) -/
abbrev rel (c j : Nat) : Prop := c < 105 ∧ c ≠ 4 ∧ c ≠ 7 ∧ c ≠ 8 ∧ c ≠ 38 ∧ (c < 95 ∨ 101 ≤ c) ∧ (c < 18 ∨ 25 ≤ c) ∧ (c < 43 ∨ 47 ≤ c) ∧ (c ≠ 13 ∨ j < 4) ∧ (c ≠ 1 ∨ j < 3)
def Cls (σ τ : Sto) : Prop := τ.2 0 = σ.2 0 ∧ ∀ c j, rel c j → τ.1 c j = σ.1 c j
theorem scR.mv {σ τ : Sto} {n k : Nat} {s : Scn} (h : scR σ n k s) (hr : ∀ j, j < 6 → (τ.1 (k + 1) j = σ.1 (k + 1) j ∧ τ.1 (k + 2) j = σ.1 (k + 2) j ∧ τ.1 (k + 3) j = σ.1 (k + 3) j)) (hn : n ≤ 6) : scR τ n k s :=
  ⟨fun p hp => (hr p (by omega)).1.trans (h.1 p hp), fun b hb => (hr b hb).2.1.trans (h.2.1 b hb), fun b hb => (hr b (by omega)).2.2.trans (h.2.2 b hb)⟩
theorem RC.mv {A : Abs} {σ τ : Sto} (h : RC A σ) (g : Cls σ τ) (hP : PI τ) : RC A τ := by
  obtain ⟨h1, ⟨b1, b2⟩, h3, ⟨nx, p1, p2, p3, p4⟩, h5, ⟨s1, s2⟩, ⟨t1, t2⟩, h8, h9, h10⟩ := h
  have hn : aN A ≤ 6 := h1.1
  have sc : ∀ k s, scR σ (aN A) k s → (k = 39 ∨ (47 ≤ k ∧ k ≤ 91)) → scR τ (aN A) k s := fun k s hs hk => hs.mv (fun j _ => ⟨g.2 _ _ (by omega), g.2 _ _ (by omega), g.2 _ _ (by omega)⟩) hn
  refine ⟨h1, ⟨(g.2 _ _ (by omega)).trans b1, fun b hb => ⟨fun p hp => (g.2 _ _ (by omega)).trans ((b2 b hb).1 p hp), (g.2 _ _ (by omega)).trans (b2 b hb).2⟩⟩, sc _ _ h3 (Or.inl rfl), ⟨nx, p1, (g.2 _ _ (by omega)).trans p2, (g.2 _ _ (by omega)).trans p3, fun i s hs => sc _ _ (p4 i s hs) (Or.inr (by omega))⟩, ?_, ⟨(g.2 _ _ (by omega)).trans s1, fun i e he => ?_⟩, ⟨(g.2 _ _ (by omega)).trans t1, fun i hi => (g.2 _ _ (by omega)).trans (t2 i hi)⟩, g.1.trans h8, hP, (g.2 _ _ (by omega)).trans h10⟩
  · intro i hi
    refine ⟨fun s hs => ⟨(g.2 _ _ (by omega)).trans ((h5 i hi).1 s hs).1, sc _ _ ((h5 i hi).1 s hs).2 (Or.inr (by omega))⟩, fun hs => (g.2 _ _ (by omega)).trans ((h5 i hi).2 hs)⟩
  · have hi4 : i < 4 := Nat.lt_of_lt_of_le (List.getElem?_eq_some_iff.mp he).1 h1.2.2.2.2.2.2.2.1
    exact ⟨fun p hp => (g.2 _ _ (by omega)).trans ((s2 i e he).1 p hp), (g.2 _ _ (by omega)).trans (s2 i e he).2⟩
theorem PI.mv {σ τ : Sto} (h : PI σ) (h1 : τ.1 18 5 = σ.1 18 5) (h2 : τ.1 20 = σ.1 20) (h3 : τ.1 24 = σ.1 24) : PI τ := by
  obtain ⟨m, a, b, c, d⟩ := h
  exact ⟨m, a, h1.trans b, by rw [h2]; exact c, by rw [h3, h2]; exact d⟩
/-- nothing of the kitchen and nothing of the planner changed -/
theorem RC.mv2 {A : Abs} {σ τ : Sto} (h : RC A σ) (g2 : τ.2 0 = σ.2 0) (g : ∀ c j, (c < 4 ∨ 9 ≤ c ∨ c = 5 ∨ c = 6) → c ≠ 38 → (c < 95 ∨ 101 ≤ c) → (c < 105 ∨ 117 ≤ c) → (c ≠ 13 ∨ j < 4) → (c ≠ 1 ∨ j < 3) → τ.1 c j = σ.1 c j) : RC A τ :=
  h.mv ⟨g2, fun c j hr => g c j (by omega) (by omega) (by omega) (by omega) (by omega) (by omega)⟩ (h.2.2.2.2.2.2.2.2.1.mv (g _ _ (by omega) (by omega) (by omega) (by omega) (by omega) (by omega)) (funext fun j => g _ _ (by omega) (by omega) (by omega) (by omega) (by omega) (by omega)) (funext fun j => g _ _ (by omega) (by omega) (by omega) (by omega) (by omega) (by omega)))
/-! what is asked of a kitchen -/
abbrev mienA (A : Abs) (b : Nat) : Int32 := mienD (aL A b) (aB A b) (aC A).1 ((aC A).2.1 b)
abbrev mindA (A : Abs) (b : Nat) : Int32 := mindD (aL A b) (aC A).1 ((aC A).2.1 b)
theorem mindD_congr {l l' pot pot' : Nat → Int32} {c : Int32} (h : ∀ p, p < 4 → l p = l' p) (h2 : ∀ p, p < 4 → pot p = pot' p) : mindD l pot c = mindD l' pot' c := by
  have hs : ∀ i, i < 4 → offD l pot c i = offD l' pot' c i := fun i hi => by unfold offD; rw [h i hi, h2 i hi]
  unfold mindD
  rw [hs 0 (by decide), hs 1 (by decide), hs 2 (by decide), hs 3 (by decide)]
theorem itN_congr {α : Type} {f g : Nat → α → α} (n : Nat) (a : α) (h : ∀ i, i < n → ∀ a, f i a = g i a) : itN f n a = itN g n a := by
  induction n with
  | zero => rfl
  | succ n ih => rw [itN, itN, ih (fun i hi => h i (by omega)), h n (Nat.lt_succ_self n)]
theorem RC.mien {A : Abs} {σ : Sto} (h : RC A σ) {b : Nat} (hb : b < aN A) : mienB σ 39 b = mienA A b := by
  obtain ⟨h1, ⟨-, b2⟩, h3, -⟩ := h
  show mienD _ _ _ _ = _
  rw [(b2 b hb).2, h3.2.1 b (by have := h1.1; omega)]
  exact mienD_congr (b2 b hb).1 h3.1
theorem RC.mind {A : Abs} {σ : Sto} (h : RC A σ) {b : Nat} (hb : b < aN A) : mindB σ 39 b = mindA A b := by
  obtain ⟨h1, ⟨-, b2⟩, h3, -⟩ := h
  show mindD _ _ _ = _
  rw [h3.2.1 b (by have := h1.1; omega)]
  exact mindD_congr (b2 b hb).1 h3.1
abbrev calmA' (A : Abs) : Int32 := itN (fun b a => if mienA A b = 0 then a ||| 1 <<< (nI b &&& 31) else a) (aN A) 0
theorem RC.calm {A : Abs} {σ : Sto} (h : RC A σ) : calmB σ 39 (aN A) = calmA' A := itN_congr _ _ (fun b hb a => by rw [h.mien hb])
abbrev mindAll (A : Abs) : Int32 := itN (fun b a => a + mindA A b) (aN A) 0
theorem RC.mindAll {A : Abs} {σ : Sto} (h : RC A σ) : itN (fun b a => a + mindB σ 39 b) (aN A) 0 = mindAll A := itN_congr _ _ (fun b hb a => by rw [h.mind hb])
theorem RC.n6 {A : Abs} {σ : Sto} (h : RC A σ) : aN A ≤ 6 := h.1.1
theorem RC.m {A : Abs} {σ : Sto} (h : RC A σ) : σ.1 5 1 = nI (aN A) := h.2.1.1
def totA (s : Scn) : Int32 := 0 + s.1 0 + s.1 1 + s.1 2 + s.1 3
theorem RC.tot {A : Abs} {σ : Sto} (h : RC A σ) : 0 + σ.1 40 0 + σ.1 40 1 + σ.1 40 2 + σ.1 40 3 = totA (aC A) := by
  have q := h.2.2.1.1
  show 0 + σ.1 (39 + 1) 0 + σ.1 (39 + 1) 1 + σ.1 (39 + 1) 2 + σ.1 (39 + 1) 3 = _
  rw [q 0 (by decide), q 1 (by decide), q 2 (by decide), q 3 (by decide)]
  rfl
theorem cldD_congr {f g : Nat → Int32} (h : ∀ b, b < 6 → f b = g b) : cldD f = cldD g := by
  unfold cldD
  rw [h 0 (by decide), h 1 (by decide), h 2 (by decide), h 3 (by decide), h 4 (by decide), h 5 (by decide)]
theorem RC.cold {A : Abs} {σ : Sto} (h : RC A σ) : cldD (σ.1 41) = cldD (aC A).2.1 := cldD_congr h.2.2.1.2.1
