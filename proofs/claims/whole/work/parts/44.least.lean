/-! ===== least terms, both ways ===== -/
def redN (p : Nat) : Nat → Nat × Nat → Nat × Nat
  | 0, a => a
  | k + 1, a => if a.1 % p = 0 ∧ a.2 % p = 0 then redN p k (a.1 / p, a.2 / p) else a
theorem nI_z {a : Nat} (ha : a < 2 ^ 31) : nI a = 0 ↔ a = 0 := ⟨fun h => nI_inj (b := 0) h ha (by decide), fun h => by rw [h]; rfl⟩
theorem red_IN {p : Nat} (hp : 0 < p) (hp2 : p < 100) : ∀ k (a : Nat × Nat), a.1 < 2 ^ 31 → a.2 < 2 ^ 31 → redI (nI p) k (nI a.1, nI a.2) = (nI (redN p k a).1, nI (redN p k a).2) := by
  intro k
  induction k with
  | zero => intro a _ _; rfl
  | succ k ih =>
    intro a h1 h2
    have e1 : rm (nI a.1) (nI p) = nI (a.1 % p) := pk_rem h1 hp (by omega)
    have e2 : rm (nI a.2) (nI p) = nI (a.2 % p) := pk_rem h2 hp (by omega)
    have l1 : a.1 % p < p := Nat.mod_lt _ hp
    have l2 : a.2 % p < p := Nat.mod_lt _ hp
    have d1 : a.1 / p ≤ a.1 := Nat.div_le_self _ _
    have d2 : a.2 / p ≤ a.2 := Nat.div_le_self _ _
    unfold redI redN
    by_cases z : a.1 % p = 0 ∧ a.2 % p = 0
    · rw [if_pos z, if_pos ⟨by rw [e1, z.1]; rfl, by rw [e2, z.2]; rfl⟩, ← ih (a.1 / p, a.2 / p) (by show a.1 / p < _; omega) (by show a.2 / p < _; omega), pk_div h1 hp (by omega), pk_div h2 hp (by omega)]
    · rw [if_neg z, if_neg (fun y => z ⟨(nI_z (by omega)).mp (e1.symm.trans y.1), (nI_z (by omega)).mp (e2.symm.trans y.2)⟩)]
/-- what is left, and what was taken off both -/
theorem red_sp {p : Nat} (hp : 0 < p) : ∀ k (a : Nat × Nat), ∃ g, a.1 = g * (redN p k a).1 ∧ a.2 = g * (redN p k a).2 ∧ (g = p ^ k ∨ ¬ ((redN p k a).1 % p = 0 ∧ (redN p k a).2 % p = 0)) := by
  intro k
  induction k with
  | zero => intro a; exact ⟨1, (Nat.one_mul _).symm, (Nat.one_mul _).symm, Or.inl (Nat.pow_zero p).symm⟩
  | succ k ih =>
    intro a
    unfold redN
    by_cases z : a.1 % p = 0 ∧ a.2 % p = 0
    · rw [if_pos z]
      obtain ⟨g, h1, h2, h3⟩ := ih (a.1 / p, a.2 / p)
      have m1 : a.1 = p * (a.1 / p) := (Nat.mul_div_cancel' (Nat.dvd_of_mod_eq_zero z.1)).symm
      have m2 : a.2 = p * (a.2 / p) := (Nat.mul_div_cancel' (Nat.dvd_of_mod_eq_zero z.2)).symm
      refine ⟨p * g, ?_, ?_, h3.imp (fun e => by rw [e, Nat.pow_succ, Nat.mul_comm]) id⟩
      · rw [Nat.mul_assoc, ← h1]; exact m1
      · rw [Nat.mul_assoc, ← h2]; exact m2
    · rw [if_neg z]
      exact ⟨1, (Nat.one_mul _).symm, (Nat.one_mul _).symm, Or.inr z⟩
abbrev ltN (u l : Nat) : Nat × Nat := redN 5 6 (redN 2 6 (u, l))
theorem mod_up {a b g p : Nat} (h : a = g * b) (hb : b % p = 0) : a % p = 0 := by rw [h, Nat.mul_mod, hb, Nat.mul_zero, Nat.zero_mod]
theorem p64 : ∀ n, n ≤ 6 → ∀ q, q < 15626 → 64 * q = 10 ^ n → q % 2 = 1 := by
  intro n hn q _ h
  match n, hn with
  | 0, _ => omega
  | 1, _ => omega
  | 2, _ => omega
  | 3, _ => omega
  | 4, _ => omega
  | 5, _ => omega
  | 6, _ => omega
theorem p56 : ∀ n, n ≤ 6 → ∀ g q, g * (15625 * q) = 10 ^ n → ¬ q % 5 = 0 := by
  intro n hn g q h z
  have : (g * (15625 * q)) % 78125 = 0 := by
    obtain ⟨r, hr⟩ := Nat.dvd_of_mod_eq_zero z
    rw [hr, show g * (15625 * (5 * r)) = 78125 * (g * r) by rw [← Nat.mul_assoc 15625, show 15625 * 5 = 78125 from rfl, Nat.mul_left_comm]]
    exact Nat.mul_mod_right _ _
  rw [h] at this
  match n, hn with
  | 0, _ => exact absurd this (by decide)
  | 1, _ => exact absurd this (by decide)
  | 2, _ => exact absurd this (by decide)
  | 3, _ => exact absurd this (by decide)
  | 4, _ => exact absurd this (by decide)
  | 5, _ => exact absurd this (by decide)
  | 6, _ => exact absurd this (by decide)
theorem cop10 {d n : Nat} (h : d ∣ 10 ^ n) (h2 : ¬ d % 2 = 0) (h5 : ¬ d % 5 = 0) : d = 1 := by
  have hc : Nat.Coprime d 10 := by
    have hg : Nat.gcd d 10 ∣ 10 := Nat.gcd_dvd_right d 10
    have hd : Nat.gcd d 10 ∣ d := Nat.gcd_dvd_left d 10
    have hle : Nat.gcd d 10 ≤ 10 := Nat.le_of_dvd (by decide) hg
    have n2 : ¬ 2 ∣ Nat.gcd d 10 := fun z => h2 (Nat.mod_eq_zero_of_dvd (Nat.dvd_trans z hd))
    have n5 : ¬ 5 ∣ Nat.gcd d 10 := fun z => h5 (Nat.mod_eq_zero_of_dvd (Nat.dvd_trans z hd))
    show Nat.gcd d 10 = 1
    generalize Nat.gcd d 10 = c at hg hle n2 n5
    have t : ∀ c, c ≤ 10 → c ∣ 10 → ¬ 2 ∣ c → ¬ 5 ∣ c → c = 1 := by decide
    exact t c hle hg n2 n5
  exact (hc.pow_right n).eq_one_of_dvd h
theorem lt_sp {u n : Nat} (hn : n ≤ 6) : u / Nat.gcd u (10 ^ n) = (ltN u (10 ^ n)).1 ∧ 10 ^ n / Nat.gcd u (10 ^ n) = (ltN u (10 ^ n)).2 := by
  obtain ⟨g, a1, a2, a3⟩ := red_sp (p := 2) (by decide) 6 (u, 10 ^ n)
  generalize hb : redN 2 6 (u, 10 ^ n) = b at a1 a2 a3
  obtain ⟨f, b1, b2, b3⟩ := red_sp (p := 5) (by decide) 6 b
  have hc : ltN u (10 ^ n) = redN 5 6 b := by show redN 5 6 (redN 2 6 (u, 10 ^ n)) = _; rw [hb]
  rw [hc]
  generalize redN 5 6 b = c at b1 b2 b3
  have a1' : u = g * b.1 := a1
  have a2' : 10 ^ n = g * b.2 := a2
  have hpos : 0 < 10 ^ n := Nat.pow_pos (by decide)
  have hle : 10 ^ n ≤ 10 ^ 6 := Nat.pow_le_pow_right (by decide) hn
  have no2 : ¬ (b.1 % 2 = 0 ∧ b.2 % 2 = 0) := by
    rcases a3 with e | e
    · intro z
      rw [e] at a2'
      have := p64 n hn b.2 (by have : (10 : Nat) ^ 6 = 1000000 := rfl; have : (2 : Nat) ^ 6 = 64 := rfl; omega) (by rw [a2'])
      omega
    · exact e
  have no5 : ¬ (c.1 % 5 = 0 ∧ c.2 % 5 = 0) := by
    rcases b3 with e | e
    · intro z
      rw [e] at b2
      exact p56 n hn g c.2 (by rw [a2', b2]) z.2
    · exact e
  have u1 : u = g * f * c.1 := by rw [a1', b1, Nat.mul_assoc]
  have l1 : 10 ^ n = g * f * c.2 := by rw [a2', b2, Nat.mul_assoc]
  have hd : Nat.gcd c.1 c.2 = 1 := by
    refine cop10 (n := n) (Nat.dvd_trans (Nat.gcd_dvd_right c.1 c.2) ⟨g * f, by rw [l1, Nat.mul_comm]⟩) (fun z => no2 ?_) (fun z => no5 ?_)
    · exact ⟨mod_up b1 (Nat.mod_eq_zero_of_dvd (Nat.dvd_trans (Nat.dvd_of_mod_eq_zero z) (Nat.gcd_dvd_left c.1 c.2))), mod_up b2 (Nat.mod_eq_zero_of_dvd (Nat.dvd_trans (Nat.dvd_of_mod_eq_zero z) (Nat.gcd_dvd_right c.1 c.2)))⟩
    · exact ⟨Nat.mod_eq_zero_of_dvd (Nat.dvd_trans (Nat.dvd_of_mod_eq_zero z) (Nat.gcd_dvd_left c.1 c.2)), Nat.mod_eq_zero_of_dvd (Nat.dvd_trans (Nat.dvd_of_mod_eq_zero z) (Nat.gcd_dvd_right c.1 c.2))⟩
  have hg : 0 < g * f := by
    rcases Nat.eq_zero_or_pos (g * f) with z | z
    · rw [z, Nat.zero_mul] at l1; omega
    · exact z
  have eg : Nat.gcd u (10 ^ n) = g * f := by rw [l1]; conv => lhs; rw [u1]
                                             rw [Nat.gcd_mul_left, hd, Nat.mul_one]
  rw [eg]
  constructor
  · conv => lhs; rw [u1]
    exact Nat.mul_div_cancel_left _ hg
  · conv => lhs; rw [l1]
    exact Nat.mul_div_cancel_left _ hg
