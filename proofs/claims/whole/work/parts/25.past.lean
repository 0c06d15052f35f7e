/-! ===== the past ===== -/
abbrev setC (A : Abs) (s : Scn) : Abs := (aN A, aL A, aB A, s, aP A, aI A, aS A, aT A, aR A)
abbrev setP (A : Abs) (l : List Scn) : Abs := (aN A, aL A, aB A, aC A, l, aI A, aS A, aT A, aR A)
abbrev remA (A : Abs) : Abs := setP A ((aC A :: aP A).take 10)
theorem becW_ne {σ : Sto} {X Y k : Nat} (h1 : k ≠ X + 1) (h2 : k ≠ X + 2) (h3 : k ≠ X + 3) : (becW σ X Y).1 k = σ.1 k := by
  unfold becW; rw [cp0_ne h3, cp0_ne h2, cp0_ne h1]
theorem becW_1 {σ : Sto} {X Y p : Nat} (hp : p < 4) (h : Y ≠ X) : (becW σ X Y).1 (X + 1) p = σ.1 (Y + 1) p := by
  unfold becW; rw [cp0_ne (by omega), cp0_ne (by omega)]; unfold cp0; simp [hp]
theorem becW_2 {σ : Sto} {X Y b : Nat} (hb : b < 6) (h1 : Y + 2 ≠ X + 1) : (becW σ X Y).1 (X + 2) b = σ.1 (Y + 2) b := by
  unfold becW; rw [cp0_ne (by omega)]; unfold cp0; simp [hb, h1]
theorem becW_3 {σ : Sto} {X Y b : Nat} (hb : b < 6) (h1 : Y + 3 ≠ X + 1) (h2 : Y + 3 ≠ X + 2) : (becW σ X Y).1 (X + 3) b = σ.1 (Y + 3) b := by
  unfold becW cp0; simp [hb, h1, h2]
theorem scR_bec {σ : Sto} {n X Y : Nat} {s : Scn} (hn : n ≤ 6) (hX : IsSc X) (hY : IsSc Y) (hne : X ≠ Y) (h : scR σ n Y s) : scR (becW σ X Y) n X s := by
  obtain ⟨i, hi, rfl⟩ := hX
  obtain ⟨j, hj, rfl⟩ := hY
  refine ⟨fun p hp => ?_, fun b hb => ?_, fun b hb => ?_⟩
  · rw [becW_1 hp (by omega)]; exact h.1 p hp
  · rw [becW_2 hb (by omega)]; exact h.2.1 b hb
  · rw [becW_3 (by omega) (by omega) (by omega)]; exact h.2.2 b hb
theorem scR_bec_ne {σ : Sto} {n X Y Z : Nat} {s : Scn} (hX : IsSc X) (hZ : IsSc Z) (hne : X ≠ Z) (h : scR σ n Z s) : scR (becW σ X Y) n Z s := by
  obtain ⟨i, hi, rfl⟩ := hX
  obtain ⟨k, hk, rfl⟩ := hZ
  refine ⟨fun p hp => ?_, fun b hb => ?_, fun b hb => ?_⟩
  · rw [becW_ne (by omega) (by omega) (by omega)]; exact h.1 p hp
  · rw [becW_ne (by omega) (by omega) (by omega)]; exact h.2.1 b hb
  · rw [becW_ne (by omega) (by omega) (by omega)]; exact h.2.2 b hb
theorem scR_wr9 {σ : Sto} {n Z j : Nat} {x : Int32} {s : Scn} (hZ : IsSc Z) (h : scR σ n Z s) : scR (wr σ 9 j x) n Z s := by
  obtain ⟨k, hk, rfl⟩ := hZ
  refine ⟨fun p hp => ?_, fun b hb => ?_, fun b hb => ?_⟩
  · rw [wr_ne (by omega)]; exact h.1 p hp
  · rw [wr_ne (by omega)]; exact h.2.1 b hb
  · rw [wr_ne (by omega)]; exact h.2.2 b hb
theorem mn10 : ∀ k, k ≤ 10 → mnI 10 (nI k + 1) = nI (min 10 (k + 1)) := by decide +kernel
theorem remW_ne {σ : Sto} {i k : Nat} (hi : i < 10) (h9 : k ≠ 9) (h : k < 56 ∨ 95 ≤ k) : (remW σ i).1 k = σ.1 k := by
  unfold remW; rw [wr_ne h9, wr_ne h9, becW_ne (by omega) (by omega) (by omega)]
theorem RC.rem {A : Abs} {σ : Sto} (h : RC A σ) {nx : Nat} (hx : nx < 10) (hn : σ.1 9 1 = nI nx) : RC (remA A) (remW σ nx) := by
  obtain ⟨h1, ⟨b1, b2⟩, h3, ⟨nx', p1, p2, p3, p4⟩, h5, ⟨s1, s2⟩, ⟨t1, t2⟩, h8, h9, h10⟩ := h
  obtain rfl : nx' = nx := nI_inj (p2.symm.trans hn) (by omega) (by omega)
  have hn6 : aN A ≤ 6 := h1.1
  have hl : (aP A).length ≤ 10 := h1.2.2.2.2.2.2.1
  have old : ∀ k s, IsSc k → k ≠ 55 + 4 * nx' → scR σ (aN A) k s → scR (remW σ nx') (aN A) k s := fun k s hk hne hs => by
    unfold remW
    exact scR_wr9 hk (scR_wr9 hk (scR_bec_ne (isSc_past hx) hk (Ne.symm hne) hs))
  have fresh : scR (remW σ nx') (aN A) (55 + 4 * nx') (aC A) := by
    unfold remW
    exact scR_wr9 (isSc_past hx) (scR_wr9 (isSc_past hx) (scR_bec hn6 (isSc_past hx) isSc_39 (by omega) h3))
  refine ⟨⟨h1.1, h1.2.1, h1.2.2.1, fun s hs => ?_, h1.2.2.2.2.1, h1.2.2.2.2.2.1, ?_, h1.2.2.2.2.2.2.2⟩, ⟨?_, fun b hb => ⟨fun p hp => ?_, ?_⟩⟩, old 39 _ isSc_39 (by omega) h3, ⟨nxt nx', ?_, ?_, ?_, fun i s hs => ?_⟩, fun i hi => ⟨fun s hs => ⟨?_, ?_⟩, fun hs => ?_⟩, ⟨?_, fun i e he => ⟨fun p hp => ?_, ?_⟩⟩, ⟨?_, fun i hi => ?_⟩, h8, h9.mv ?_ ?_ ?_, ?_⟩
  · rcases List.mem_cons.mp (List.mem_of_mem_take hs) with e | e
    · rw [e]; exact h1.2.2.1
    · exact h1.2.2.2.1 s e
  · show ((aC A :: aP A).take 10).length ≤ 10
    rw [List.length_take]; omega
  · rw [remW_ne hx (by decide) (by omega)]; exact b1
  · have hb' : b < aN A := hb
    rw [remW_ne hx (by omega) (by omega)]; exact (b2 b hb).1 p hp
  · have hb' : b < aN A := hb
    rw [remW_ne hx (by omega) (by omega)]; exact (b2 b hb).2
  · unfold nxt; split <;> omega
  · unfold remW; rw [wr_nj (by decide), wr_at]
  · unfold remW
    rw [wr_at, p3, mn10 _ hl]
    show _ = nI ((aC A :: aP A).take 10).length
    rw [List.length_take, List.length_cons]
  · have hs' : ((aC A :: aP A).take 10)[i]? = some s := hs
    rw [List.getElem?_take] at hs'
    by_cases hi : i < 10
    · rw [if_pos hi] at hs'
      cases i with
      | zero =>
        cases hs'
        have e : (nxt nx' + 9 - 0) % 10 = nx' := by unfold nxt; split <;> omega
        rw [e]; exact fresh
      | succ i =>
        have hs2 : (aP A)[i]? = some s := hs'
        have e : (nxt nx' + 9 - (i + 1)) % 10 = (nx' + 9 - i) % 10 := by unfold nxt; split <;> omega
        rw [e]
        refine old _ _ (isSc_past (by omega)) ?_ (p4 i s hs2)
        omega
    · rw [if_neg hi] at hs'; cases hs'
  · rw [remW_ne hx (by decide) (by omega)]; exact ((h5 i hi).1 s hs).1
  · exact old _ _ (isSc_img hi) (by omega) ((h5 i hi).1 s hs).2
  · rw [remW_ne hx (by decide) (by omega)]; exact (h5 i hi).2 hs
  · rw [remW_ne hx (by decide) (by omega)]; exact s1
  · rw [remW_ne hx (by omega) (by omega)]; exact (s2 i e he).1 p hp
  · rw [remW_ne hx (by decide) (by omega)]; exact (s2 i e he).2
  · rw [remW_ne hx (by decide) (by omega)]; exact t1
  · rw [remW_ne hx (by decide) (by omega)]; exact t2 i hi
  · rw [remW_ne hx (by decide) (by omega)]
  · rw [remW_ne hx (by decide) (by omega)]
  · rw [remW_ne hx (by decide) (by omega)]
  · rw [remW_ne hx (by decide) (by omega)]; exact h10
/-- the present alone changes -/
theorem RC.cur {A : Abs} {σ τ : Sto} {s : Scn} (h : RC A σ) (h2 : τ.2 0 = σ.2 0) (hc : ∀ k, k ≠ 40 → k ≠ 41 → k ≠ 42 → k < 117 → τ.1 k = σ.1 k) (hs : scR τ (aN A) 39 s) (ho : okS s) : RC (setC A s) τ := by
  obtain ⟨h1, ⟨b1, b2⟩, h3, ⟨nx, p1, p2, p3, p4⟩, h5, ⟨s1, s2⟩, ⟨t1, t2⟩, h8, h9, h10⟩ := h
  have hn6 : aN A ≤ 6 := h1.1
  have old : ∀ k s, IsSc k → k ≠ 39 → scR σ (aN A) k s → scR τ (aN A) k s := fun k s hk hne hs => by
    obtain ⟨i, hi, rfl⟩ := hk
    exact hs.mv (fun j _ => ⟨by rw [hc _ (by omega) (by omega) (by omega) (by omega)], by rw [hc _ (by omega) (by omega) (by omega) (by omega)], by rw [hc _ (by omega) (by omega) (by omega) (by omega)]⟩) hn6
  refine ⟨⟨h1.1, h1.2.1, ho, h1.2.2.2⟩, ⟨?_, fun b hb => ⟨fun p hp => ?_, ?_⟩⟩, hs, ⟨nx, p1, ?_, ?_, fun i s hs => old _ _ (isSc_past (by omega)) (by omega) (p4 i s hs)⟩, fun i hi => ⟨fun s hs => ⟨?_, old _ _ (isSc_img hi) (by omega) ((h5 i hi).1 s hs).2⟩, fun hs => ?_⟩, ⟨?_, fun i e he => ?_⟩, ⟨?_, fun i hi => ?_⟩, h2.trans h8, h9.mv ?_ ?_ ?_, ?_⟩
  · rw [hc _ (by omega) (by omega) (by omega) (by omega)]; exact b1
  · have hb' : b < aN A := hb
    rw [hc _ (by omega) (by omega) (by omega) (by omega)]; exact (b2 b hb).1 p hp
  · have hb' : b < aN A := hb
    rw [hc _ (by omega) (by omega) (by omega) (by omega)]; exact (b2 b hb).2
  · rw [hc _ (by omega) (by omega) (by omega) (by omega)]; exact p2
  · rw [hc _ (by omega) (by omega) (by omega) (by omega)]; exact p3
  · rw [hc _ (by omega) (by omega) (by omega) (by omega)]; exact ((h5 i hi).1 s hs).1
  · rw [hc _ (by omega) (by omega) (by omega) (by omega)]; exact (h5 i hi).2 hs
  · rw [hc _ (by omega) (by omega) (by omega) (by omega)]; exact s1
  · have hi4 : i < 4 := Nat.lt_of_lt_of_le (List.getElem?_eq_some_iff.mp he).1 h1.2.2.2.2.2.2.2.1
    exact ⟨fun p hp => by rw [hc _ (by omega) (by omega) (by omega) (by omega)]; exact (s2 i e he).1 p hp, by rw [hc _ (by omega) (by omega) (by omega) (by omega)]; exact (s2 i e he).2⟩
  · rw [hc _ (by omega) (by omega) (by omega) (by omega)]; exact t1
  · rw [hc _ (by omega) (by omega) (by omega) (by omega)]; exact t2 i hi
  · rw [hc _ (by omega) (by omega) (by omega) (by omega)]
  · rw [hc _ (by omega) (by omega) (by omega) (by omega)]
  · rw [hc _ (by omega) (by omega) (by omega) (by omega)]
  · rw [hc _ (by omega) (by omega) (by omega) (by omega)]; exact h10
/-- the past alone changes, in its two numbers -/
theorem RC.pst {A : Abs} {σ τ : Sto} {l : List Scn} (h : RC A σ) (h2 : τ.2 0 = σ.2 0) (hc : ∀ k, k ≠ 9 → k < 117 → τ.1 k = σ.1 k) (hl : ∀ s ∈ l, s ∈ aP A) (hlen : l.length ≤ 10) (hp : pastR (setP A l) τ) : RC (setP A l) τ := by
  obtain ⟨h1, ⟨b1, b2⟩, h3, -, h5, ⟨s1, s2⟩, ⟨t1, t2⟩, h8, h9, h10⟩ := h
  have hn6 : aN A ≤ 6 := h1.1
  have old : ∀ k s, IsSc k → scR σ (aN A) k s → scR τ (aN A) k s := fun k s hk hs => by
    obtain ⟨i, hi, rfl⟩ := hk
    exact hs.mv (fun j _ => ⟨by rw [hc _ (by omega) (by omega)], by rw [hc _ (by omega) (by omega)], by rw [hc _ (by omega) (by omega)]⟩) hn6
  refine ⟨⟨h1.1, h1.2.1, h1.2.2.1, fun s hs => h1.2.2.2.1 s (hl s hs), h1.2.2.2.2.1, h1.2.2.2.2.2.1, hlen, h1.2.2.2.2.2.2.2⟩, ⟨?_, fun b hb => ⟨fun p hp => ?_, ?_⟩⟩, old _ _ isSc_39 h3, hp, fun i hi => ⟨fun s hs => ⟨?_, old _ _ (isSc_img hi) ((h5 i hi).1 s hs).2⟩, fun hs => ?_⟩, ⟨?_, fun i e he => ?_⟩, ⟨?_, fun i hi => ?_⟩, h2.trans h8, h9.mv ?_ ?_ ?_, ?_⟩
  · rw [hc _ (by omega) (by omega)]; exact b1
  · have hb' : b < aN A := hb
    rw [hc _ (by omega) (by omega)]; exact (b2 b hb).1 p hp
  · have hb' : b < aN A := hb
    rw [hc _ (by omega) (by omega)]; exact (b2 b hb).2
  · rw [hc _ (by omega) (by omega)]; exact ((h5 i hi).1 s hs).1
  · rw [hc _ (by omega) (by omega)]; exact (h5 i hi).2 hs
  · rw [hc _ (by omega) (by omega)]; exact s1
  · have hi4 : i < 4 := Nat.lt_of_lt_of_le (List.getElem?_eq_some_iff.mp he).1 h1.2.2.2.2.2.2.2.1
    exact ⟨fun p hp => by rw [hc _ (by omega) (by omega)]; exact (s2 i e he).1 p hp, by rw [hc _ (by omega) (by omega)]; exact (s2 i e he).2⟩
  · rw [hc _ (by omega) (by omega)]; exact t1
  · rw [hc _ (by omega) (by omega)]; exact t2 i hi
  · rw [hc _ (by omega) (by omega)]
  · rw [hc _ (by omega) (by omega)]
  · rw [hc _ (by omega) (by omega)]
  · rw [hc _ (by omega) (by omega)]; exact h10
theorem RC.past0 {A : Abs} {σ : Sto} (h : RC A σ) : ∃ nx, nx < 10 ∧ σ.1 9 1 = nI nx ∧ σ.1 9 2 = nI (aP A).length := by
  obtain ⟨nx, a, b, c, -⟩ := h.2.2.2.1
  exact ⟨nx, a, b, c⟩
