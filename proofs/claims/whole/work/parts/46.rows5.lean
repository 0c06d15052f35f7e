/-! ===== rows of deeds that can all be done ===== -/
abbrev scX (A : Abs) (x : Nat) : Scn := (dg x, (aC A).2)
abbrev cbX (x e : Nat) : Prop := cbP (dg x, fun _ => 0, fun _ => 0) e
theorem okS_x {A : Abs} (h : okS (aC A)) {x : Nat} (hx : x < 1296) : okS (scX A x) := ⟨fun p _ => dg_sm hx p, h.2⟩
theorem okS_0 {x : Nat} (hx : x < 1296) : okS (dg x, fun _ => 0, fun _ => 0) := ⟨fun p _ => dg_sm hx p, fun _ _ => Or.inl rfl⟩
theorem stp_no {x e : Nat} (hx : x < 1296) (he : e < 5) (h : ¬ cbX x e) : stp x e = x := by
  refine dg_inj (stp_lt hx he) hx (fun p hp => ?_)
  rw [← stp_dg hx he hp]
  exact (ch_no (okS_0 hx) (d := e) (by omega) (fun _ => h) hp).symm
theorem stp_yes {x e : Nat} (hx : x < 1296) (he : e < 5) (h : cbX x e) {p : Nat} (hp : p < 4) : dsF (dg x) e p = dg (stp x e) p := by
  rw [← stp_dg hx he hp]
  exact ch_yes (okS_0 hx) he h hp
def okR (x0 : Nat) : Nat → Nat → Prop
  | 0, _ => True
  | l + 1, n => okR x0 l (n / 5) ∧ cbX (runW x0 l (n / 5)) (n % 5)
theorem drop_R {x0 : Nat} (hx : x0 < 1296) : ∀ l N, N < 5 ^ (l + 1) → ¬ okR x0 (l + 1) N → ∃ N', N' < 5 ^ l ∧ runW x0 l N' = runW x0 (l + 1) N := by
  intro l
  induction l with
  | zero =>
    intro N hN h
    have hm : N % 5 < 5 := Nat.mod_lt _ (by decide)
    refine ⟨0, by decide, ?_⟩
    show x0 = stp x0 (N % 5)
    exact (stp_no hx hm (fun z => h ⟨trivial, z⟩)).symm
  | succ l ih =>
    intro N hN h
    have hm : N % 5 < 5 := Nat.mod_lt _ (by decide)
    have hd : N / 5 < 5 ^ (l + 1) := by rw [Nat.pow_succ] at hN; omega
    by_cases z : okR x0 (l + 1) (N / 5)
    · refine ⟨N / 5, hd, ?_⟩
      show _ = stp (runW x0 (l + 1) (N / 5)) (N % 5)
      exact (stp_no (runW_lt hx _ _) hm (fun y => h ⟨z, y⟩)).symm
    · obtain ⟨M, hM, e⟩ := ih (N / 5) hd z
      refine ⟨5 * M + N % 5, by rw [Nat.pow_succ]; omega, ?_⟩
      show stp (runW x0 l ((5 * M + N % 5) / 5)) ((5 * M + N % 5) % 5) = stp (runW x0 (l + 1) (N / 5)) (N % 5)
      rw [show (5 * M + N % 5) / 5 = M by omega, show (5 * M + N % 5) % 5 = N % 5 by omega, e]
theorem no_R {c : Nat → Prop} {x0 : Nat} (hx : x0 < 1296) (G : Nat → Nat → Prop) (hG : ∀ l N N', G (l + 1) N → N' < 5 ^ l → G l N') (h : ∀ l N, N < 5 ^ l → G l N → ¬ (okR x0 l N ∧ c (runW x0 l N))) : ∀ l N, N < 5 ^ l → G l N → ¬ c (runW x0 l N) := by
  intro l
  induction l with
  | zero => intro N hN g z; exact h 0 N hN g ⟨trivial, z⟩
  | succ l ih =>
    intro N hN g z
    by_cases y : okR x0 (l + 1) N
    · exact h (l + 1) N hN g ⟨y, z⟩
    · obtain ⟨N', h1, h2⟩ := drop_R hx l N hN y
      exact ih N' h1 (hG l N N' g h1) (by rw [h2]; exact z)
theorem frst_of {c : Nat → Prop} {x0 l N : Nat} (hx : x0 < 1296) (hl : l ≤ 5) (hN : N < 5 ^ l) (h2 : c (runW x0 l N)) (h3 : ∀ l' N', N' < 5 ^ l' → slt l' N' l N → ¬ (okR x0 l' N' ∧ c (runW x0 l' N'))) : Frst c x0 l N :=
  ⟨hl, hN, h2, no_R hx (fun l' N' => slt l' N' l N) (fun l' N1 N2 g _ => by rcases g with g | g <;> exact Or.inl (by omega)) h3⟩
theorem none_of {c : Nat → Prop} {x0 : Nat} (hx : x0 < 1296) (h : ∀ l N, l ≤ 5 → N < 5 ^ l → ¬ (okR x0 l N ∧ c (runW x0 l N))) : ∀ l N, l ≤ 5 → N < 5 ^ l → ¬ c (runW x0 l N) := fun l N hl hN => no_R hx (fun l _ => l ≤ 5) (fun l' _ _ g _ => by omega) (fun l N hN g => h l N g hN) l N hN hl
/-- the first i deeds of row N of l -/
theorem pre_s {l N i : Nat} (hi : i < l) : N / 5 ^ (l - (i + 1)) / 5 = N / 5 ^ (l - i) := by
  rw [Nat.div_div_eq_div_mul, ← Nat.pow_succ, show (l - (i + 1)).succ = l - i by omega]
theorem okR_pre {x0 l N : Nat} (h : okR x0 l N) : ∀ i, i ≤ l → okR x0 i (N / 5 ^ (l - i)) := by
  intro i hi
  have : ∀ d, d ≤ l → okR x0 (l - d) (N / 5 ^ d) := by
    intro d
    induction d with
    | zero => intro _; rw [Nat.pow_zero, Nat.div_one]; exact h
    | succ d ih =>
      intro hd
      have := ih (by omega)
      rw [show l - d = (l - (d + 1)) + 1 by omega] at this
      have := this.1
      rw [Nat.div_div_eq_div_mul, ← Nat.pow_succ] at this
      exact this
  have := this (l - i) (by omega)
  rw [show l - (l - i) = i by omega] at this
  exact this
/-- a set lies in the calm ones -/
theorem sub_t : ∀ s, s < 64 → ∀ m, m < 64 → (nI s &&& (nI m ^^^ -1) = 0 ↔ ∀ b, b < 6 → bit (nI s) b → bit (nI m) b) := by decide +kernel
theorem or_has : ∀ n, n < 6 → ∀ m, m < 2 ^ n → ∀ b, b < 6 → (bit (nI (m + 2 ^ n)) b ↔ (b = n ∨ bit (nI m) b)) ∧ (bit (nI m) b → b < n) := by decide +kernel
theorem calm_has (P : Nat → Prop) [∀ b, Decidable (P b)] : ∀ n, n ≤ 6 → ∃ m, m < 2 ^ n ∧ itN (fun b (a : Int32) => if P b then a ||| 1 <<< (nI b &&& 31) else a) n 0 = nI m ∧ ∀ b, b < 6 → (bit (nI m) b ↔ b < n ∧ P b) := by
  intro n
  induction n with
  | zero => intro _; exact ⟨0, by decide, rfl, fun b hb => ⟨fun z => absurd z (bit0 b hb), fun z => absurd z.1 (Nat.not_lt_zero b)⟩⟩
  | succ n ih =>
    intro hn
    obtain ⟨m, hm, e, hb⟩ := ih (by omega)
    have h2 : (2 : Nat) ^ (n + 1) = 2 * 2 ^ n := by rw [Nat.pow_succ, Nat.mul_comm]
    have h3 : (2 : Nat) ^ n ≤ 32 := (by decide : ∀ n, n ≤ 5 → (2 : Nat) ^ n ≤ 32) n (by omega)
    show ∃ m, m < 2 ^ (n + 1) ∧ (if P n then itN (fun b (a : Int32) => if P b then a ||| 1 <<< (nI b &&& 31) else a) n 0 ||| 1 <<< (nI n &&& 31) else itN (fun b (a : Int32) => if P b then a ||| 1 <<< (nI b &&& 31) else a) n 0) = nI m ∧ ∀ b, b < 6 → (bit (nI m) b ↔ b < n + 1 ∧ P b)
    rw [e]
    by_cases q : P n
    · refine ⟨m + 2 ^ n, by omega, by rw [if_pos q, or_bit m (by omega) n (by omega) hm], fun b h6 => ?_⟩
      rw [(or_has n (by omega) m hm b h6).1, hb b h6]
      constructor
      · rintro (z | z)
        · exact ⟨by omega, z ▸ q⟩
        · exact ⟨by omega, z.2⟩
      · intro z
        by_cases y : b = n
        · exact Or.inl y
        · exact Or.inr ⟨by omega, z.2⟩
    · refine ⟨m, by omega, by rw [if_neg q], fun b h6 => ?_⟩
      rw [hb b h6]
      constructor
      · intro z; exact ⟨by omega, z.2⟩
      · intro z
        refine ⟨?_, z.2⟩
        rcases Nat.lt_or_ge b n with y | y
        · exact y
        · exact absurd ((show b = n by omega) ▸ z.2) q
theorem sub_pl {A : Abs} (hn : aN A ≤ 6) {s : Nat} (hs : s < 2 ^ aN A) (x : Nat) : nI s &&& (calmA' (setC A (scX A x)) ^^^ -1) = 0 ↔ plA A (nI s) x := by
  obtain ⟨m, hm, e, hb⟩ := calm_has (fun b => mienA (setC A (scX A x)) b = 0) (aN A) hn
  have h6 := (pow_n _ hn).1
  rw [show calmA' (setC A (scX A x)) = nI m from e, sub_t s (by omega) m (by omega)]
  have hz : ∀ n, n ≤ 6 → ∀ s, s < 2 ^ n → ∀ b, b < 6 → bit (nI s) b → b < n := fun n hn s hs b h6 z => by
    rcases Nat.lt_or_ge n 6 with y | y
    · exact (or_has n y s hs b h6).2 z
    · omega
  constructor
  · intro h b hb' z
    have := (hb b (by omega)).mp (h b (by omega) z)
    exact this.2
  · intro h b h6 z
    exact (hb b h6).mpr ⟨hz _ hn s hs b h6 z, h b (hz _ hn s hs b h6 z) z⟩
