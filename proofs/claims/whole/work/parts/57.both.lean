/-! ===== the same call on both ===== -/
def tOk (A : Abs) : Prop := ∀ i, i < (aT A).1 → 0 ≤ (aT A).2 i ∧ (aT A).2 i ≤ 255
theorem RM.fc {A : Abs} {σ τ : Sto} (h : RM A σ) (g : FrC σ τ) : RM A τ := by
  obtain ⟨h1, b, c, p, i, s, t, r⟩ := h
  obtain ⟨g1, g2⟩ := g
  exact ⟨h1, b.mv (by rw [g1 117 (by decide)]) (g1 118 (by decide)) (g1 119 (by decide)), c.mv (g1 120 (by decide)), p.mv (by rw [g1 117 (by decide)]) (g1 121 (by decide)), i.mv (g1 123 (by decide)) (g1 122 (by decide)), s.mv (by rw [g1 117 (by decide)]) (g1 124 (by decide)) (g1 125 (by decide)), t.mv (by rw [g1 117 (by decide)]) (g1 126 (by decide)), by rw [g2 117 (by decide)]; exact r⟩
/-- a call of the class and the reference's: one answer, one kitchen behind it -/
def Bc (S : Scr) (yc : MethodName) (cc : ByteArray) (nc : Nat) (ym : MethodName) (cm : ByteArray) (nm : Nat) (av : List Value) (A : Abs) (σ : Sto) : Prop :=
  ∃ (dc dm : Nat) (R : Int32 → Abs → Prop), dc < 8 ∧ dm < 8 ∧ Mt S yc cc nc (some .int) dc (.ref 0 :: av) σ (fun r τ => ∃ v A', r = some (.int v) ∧ R v A' ∧ RC A' τ ∧ FrC σ τ) ∧
    ∀ τ v A', R v A' → AI A' → RM A τ → Mt S ym cm nm (some .int) dm (.ref 117 :: av) τ (PM A' τ v) ∧ tOk A'
section BC
variable {S : Scr} {yc ym : MethodName} {cc cm : ByteArray} {nc nm dc dm : Nat} {av : List Value} {A A' : Abs} {σ : Sto} {v : Int32}
theorem bc_of (h1 : Mt S yc cc nc (some .int) dc (.ref 0 :: av) σ (PC A' σ v)) (h2 : AI A' → ∀ τ, RM A τ → Mt S ym cm nm (some .int) dm (.ref 117 :: av) τ (PM A' τ v)) (ht : tOk A') (hc : dc < 8) (hm : dm < 8) : Bc S yc cc nc ym cm nm av A σ :=
  ⟨dc, dm, fun a b => a = v ∧ b = A', hc, hm, mt_post h1 (fun r τ q => ⟨v, A', q.1, ⟨rfl, rfl⟩, q.2⟩), fun τ a b e g k => by
    obtain ⟨rfl, rfl⟩ := e
    exact ⟨h2 g τ k, ht⟩⟩
theorem bc_is (h : RC A σ) (ht : tOk A) (h1 : Mt S yc cc nc (some .int) dc (.ref 0 :: av) σ (Is (some (.int v)) σ)) (h2 : ∀ τ, RM A τ → Mt S ym cm nm (some .int) dm (.ref 117 :: av) τ (Is (some (.int v)) τ)) (hc : dc < 8) (hm : dm < 8) : Bc S yc cc nc ym cm nm av A σ :=
  bc_of (A' := A) (v := v) (mt_post h1 (fun r τ q => by obtain ⟨q1, rfl⟩ := q; exact ⟨q1, h, FrC.rf _⟩)) (fun _ τ k => mt_post (h2 τ k) (fun r ρ q => by obtain ⟨q1, rfl⟩ := q; exact ⟨q1, k, FrM.rf _⟩)) ht hc hm
end BC
theorem in_nI {p : Int32} {n : Nat} (h0 : ¬ p < 0) (h : p < nI n) (hn : n < 2 ^ 31) : ∃ q, q < n ∧ p = nI q := by
  rw [tI_lt, nI_toInt hn] at h
  rw [tI_lt, show (0 : Int32).toInt = 0 from rfl] at h0
  have e := nI_self (i := p) (by omega)
  have t := tn_of (i := p) (by omega)
  exact ⟨p.toNatClampNeg, by omega, e.symm⟩
theorem le_nI {p : Int32} {n : Nat} (h0 : ¬ p < 0) (h : p ≤ nI n) (hn : n < 2 ^ 31) : ∃ q, q ≤ n ∧ p = nI q := by
  rw [tI_le, nI_toInt hn] at h
  rw [tI_lt, show (0 : Int32).toInt = 0 from rfl] at h0
  have e := nI_self (i := p) (by omega)
  have t := tn_of (i := p) (by omega)
  exact ⟨p.toNatClampNeg, by omega, e.symm⟩
theorem not_lt0 {c : Int32} (h : ¬ c < 0) : 0 ≤ c := Int32.not_lt.mp h
theorem bc_type {S : Scr} {A : Abs} {σ : Sto} (h : RC A σ) (ht : tOk A) (c : Int32) : Bc S yX7_type cX7_type 2 yX8_type cX8_type 2 [.int c] A σ := by
  have hn := h.1.1
  by_cases hc : ¬ c < 0 ∧ c ≤ 255
  · by_cases hl : (aT A).1 < 120
    · refine bc_of (m_X7_type c hc hl σ h) (fun hA τ k => m_X8_type c hc hl τ k hA) (fun i hi => ?_) (by decide) (by decide)
      show 0 ≤ (if i = (aT A).1 then c else (aT A).2 i) ∧ (if i = (aT A).1 then c else (aT A).2 i) ≤ 255
      by_cases q : i = (aT A).1
      · rw [if_pos q]; exact ⟨not_lt0 hc.1, hc.2⟩
      · rw [if_neg q]; exact ht i (by have : i < (aT A).1 + 1 := hi; omega)
    · have hl' : (aT A).1 = 120 := by have := h.1.2.2.2.2.2.2.2.2; omega
      exact bc_is h ht (m_X7_type1 c hc hl' σ h) (fun τ k => m_X8_type1 c hc hl' τ k) (by decide) (by decide)
  · exact bc_is h ht (m_X7_type0 c hc σ) (fun τ k => m_X8_type0 c hc τ) (by decide) (by decide)
theorem bc_clear {S : Scr} {A : Abs} {σ : Sto} (h : RC A σ) (ht : tOk A) : Bc S yX7_clear cX7_clear 1 yX8_clear cX8_clear 2 [] A σ := by
  have hn := h.1.1
  exact bc_of (m_X7_clear σ h) (fun hA τ k => m_X8_clear τ k hA) (fun i hi => absurd hi (Nat.not_lt_zero i)) (by decide) (by decide)
theorem bc_kitchen {S : Scr} {A : Abs} {σ : Sto} (h : RC A σ) (ht : tOk A) : Bc S yX7_kitchen cX7_kitchen 2 yX8_kitchen cX8_kitchen 2 [] A σ := by
  have hn := h.1.1
  refine ⟨5, 6, kitR A, by decide, by decide, m_X7_kitchen σ h, fun τ v A' e g k => ⟨mt_post (m_X8_kitchen τ k ⟨h.1.2.2.2.2.2.2.2.2, k.2.2.2.2.2.2.1.1, k.2.2.2.2.2.2.1.2, ht⟩) (fun r ρ q => ?_), ?_⟩⟩
  · obtain ⟨v2, A2, q1, q2, q3, q4⟩ := q
    obtain ⟨e1, e2⟩ := kitR_uniq e q2
    subst e1 e2
    exact ⟨q1, q3, q4⟩
  · obtain ⟨kk, o, e1, ⟨it, nb, L, P, e2, e3, e4⟩ | ⟨z, e2, e3, e4⟩⟩ := e
    · rw [e4]; exact fun i hi => absurd hi (Nat.not_lt_zero i)
    · rw [e4]; exact ht
theorem bc_pot {S : Scr} {A : Abs} {σ : Sto} (h : RC A σ) (ht : tOk A) (p : Int32) : Bc S yX7_pot cX7_pot 2 yX8_pot cX8_pot 2 [.int p] A σ := by
  have hn := h.1.1
  by_cases hp : ¬ p < 0 ∧ p < 4
  · obtain ⟨q, hq, rfl⟩ := in_nI (n := 4) hp.1 hp.2 (by decide)
    exact bc_of (m_X7_pot q hq σ h) (fun _ τ k => m_X8_pot q hq τ k) ht (by decide) (by decide)
  · exact bc_is h ht (m_X7_pot0 p hp σ) (fun τ k => m_X8_pot0 p hp τ) (by decide) (by decide)
theorem bc_brother {S : Scr} {A : Abs} {σ : Sto} (h : RC A σ) (ht : tOk A) (b w : Int32) : Bc S yX7_brother cX7_brother 3 yX8_brother cX8_brother 3 [.int b, .int w] A σ := by
  have hn := h.1.1
  by_cases hp : okB A b ∧ ¬ w < 0 ∧ w ≤ 8
  · obtain ⟨q, hq, rfl⟩ := in_nI hp.1.1 hp.1.2 (by omega)
    obtain ⟨u, hu, rfl⟩ := le_nI (n := 8) hp.2.1 hp.2.2 (by decide)
    rcases (show u < 4 ∨ u = 4 ∨ u = 5 ∨ u = 6 ∨ u = 7 ∨ u = 8 by omega) with z | rfl | rfl | rfl | rfl | rfl
    · exact bc_of (m_X7_brother_L q hq u z σ h) (fun _ τ k => m_X8_brother_L q hq u z τ k) ht (by decide) (by decide)
    · exact bc_of (m_X7_brother_4 q hq σ h) (fun _ τ k => m_X8_brother_4 q hq τ k) ht (by decide) (by decide)
    · exact bc_of (m_X7_brother_5 q hq σ h) (fun _ τ k => m_X8_brother_5 q hq τ k) ht (by decide) (by decide)
    · exact bc_of (m_X7_brother_6 q hq σ h) (fun _ τ k => m_X8_brother_6 q hq τ k) ht (by decide) (by decide)
    · exact bc_of (m_X7_brother_7 q hq σ h) (fun _ τ k => m_X8_brother_7 q hq τ k) ht (by decide) (by decide)
    · exact bc_of (m_X7_brother_8 q hq σ h) (fun _ τ k => m_X8_brother_8 q hq τ k) ht (by decide) (by decide)
  · exact bc_is h ht (m_X7_brother0 b w hp σ h) (fun τ k => m_X8_brother0 b w hp τ k) (by decide) (by decide)
theorem bc_off {S : Scr} {A : Abs} {σ : Sto} (h : RC A σ) (ht : tOk A) (b p : Int32) : Bc S yX7_off cX7_off 3 yX8_off cX8_off 3 [.int b, .int p] A σ := by
  have hn := h.1.1
  by_cases hp : okB A b ∧ okP p
  · obtain ⟨q, hq, rfl⟩ := in_nI hp.1.1 hp.1.2 (by omega)
    obtain ⟨u, hu, rfl⟩ := in_nI (n := 4) hp.2.1 hp.2.2 (by decide)
    exact bc_of (m_X7_off q hq u hu σ h) (fun _ τ k => m_X8_off q hq u hu τ k) ht (by decide) (by decide)
  · exact bc_is h ht (m_X7_off0 b p hp σ h) (fun τ k => m_X8_off0 b p hp τ k) (by decide) (by decide)
theorem bc_now {S : Scr} {A : Abs} {σ : Sto} (h : RC A σ) (ht : tOk A) (w : Int32) : Bc S yX7_now cX7_now 2 yX8_now cX8_now 2 [.int w] A σ := by
  have hn := h.1.1
  exact bc_of (m_X7_now w σ h) (fun _ τ k => m_X8_now w τ k) ht (by decide) (by decide)
theorem bc_adds {S : Scr} {A : Abs} {σ : Sto} (h : RC A σ) (ht : tOk A) (p : Int32) : Bc S yX7_adds cX7_adds 2 yX8_adds cX8_adds 2 [.int p] A σ := by
  have hn := h.1.1
  by_cases hp : ¬ p < 0 ∧ p < 4
  · obtain ⟨q, hq, rfl⟩ := in_nI (n := 4) hp.1 hp.2 (by decide)
    by_cases hl : 5 ≤ (aC A).1 q
    · exact bc_is h ht (m_X7_adds1 q hq hl σ h) (fun τ k => m_X8_adds1 q hq hl τ k) (by decide) (by decide)
    · exact bc_of (m_X7_adds q hq hl σ h) (fun hA τ k => m_X8_adds q hq hl τ k hA) ht (by decide) (by decide)
  · exact bc_is h ht (m_X7_adds0 p hp σ) (fun τ k => m_X8_adds0 p hp τ) (by decide) (by decide)
theorem bc_waters {S : Scr} {A : Abs} {σ : Sto} (h : RC A σ) (ht : tOk A) : Bc S yX7_waters cX7_waters 1 yX8_waters cX8_waters 1 [] A σ := by
  have hn := h.1.1
  by_cases hl : totA (aC A) = 0
  · exact bc_of (A' := A) (v := -2) (mt_post (m_X7_waters1 hl σ h) (fun r τ q => by obtain ⟨q1, rfl⟩ := q; exact ⟨q1, h, FrC.rf _⟩)) (fun _ τ k => m_X8_waters1 hl τ k) ht (by decide) (by decide)
  · exact bc_of (m_X7_waters hl σ h) (fun hA τ k => m_X8_waters hl τ k hA) ht (by decide) (by decide)
theorem bc_sends {S : Scr} {A : Abs} {σ : Sto} (h : RC A σ) (ht : tOk A) (b : Int32) : Bc S yX7_sends cX7_sends 2 yX8_sends cX8_sends 2 [.int b] A σ := by
  have hn := h.1.1
  by_cases hp : okB A b
  · obtain ⟨q, hq, rfl⟩ := in_nI hp.1 hp.2 (by omega)
    exact bc_of (m_X7_sends q hq σ h) (fun hA τ k => m_X8_sends q hq τ k hA) ht (by decide) (by decide)
  · exact bc_is h ht (m_X7_sends0 b hp σ h) (fun τ k => m_X8_sends0 b hp τ k) (by decide) (by decide)
theorem bc_colds {S : Scr} {A : Abs} {σ : Sto} (h : RC A σ) (ht : tOk A) (b x : Int32) : Bc S yX7_colds cX7_colds 3 yX8_colds cX8_colds 3 [.int b, .int x] A σ := by
  have hn := h.1.1
  by_cases hp : okB A b ∧ ¬ x < 0 ∧ x ≤ 1
  · obtain ⟨q, hq, rfl⟩ := in_nI hp.1.1 hp.1.2 (by omega)
    have hx : x = 0 ∨ x = 1 := by
      obtain ⟨u, hu, rfl⟩ := le_nI (n := 1) hp.2.1 hp.2.2 (by decide)
      rcases (show u = 0 ∨ u = 1 by omega) with rfl | rfl
      · exact Or.inl rfl
      · exact Or.inr rfl
    by_cases hl : (aC A).2.1 q = x
    · exact bc_is h ht (m_X7_colds1 q hq x hx hl σ h) (fun τ k => m_X8_colds1 q hq x hx hl τ k) (by decide) (by decide)
    · exact bc_of (m_X7_colds q hq x hx hl σ h) (fun hA τ k => m_X8_colds q hq x hx hl τ k hA) ht (by decide) (by decide)
  · exact bc_is h ht (m_X7_colds0 b x hp σ h) (fun τ k => m_X8_colds0 b x hp τ k) (by decide) (by decide)
theorem bc_undo {S : Scr} {A : Abs} {σ : Sto} (h : RC A σ) (ht : tOk A) : Bc S yX7_undo cX7_undo 1 yX8_undo cX8_undo 1 [] A σ := by
  have hn := h.1.1
  cases hl : aP A with
  | nil => exact bc_is h ht (m_X7_undo1 hl σ h) (fun τ k => m_X8_undo1 hl τ k) (by decide) (by decide)
  | cons s l => exact bc_of (m_X7_undo s l hl σ h) (fun hA τ k => m_X8_undo s l hl τ k hA) ht (by decide) (by decide)
theorem bc_plan {S : Scr} {A : Abs} {σ : Sto} (h : RC A σ) (ht : tOk A) (s k : Int32) : Bc S yX7_plan cX7_plan 4 yX8_plan cX8_plan 5 [.int s, .int k] A σ := by
  have hn := h.1.1
  by_cases hp : (¬ s < 0 ∧ s ≤ allA A) ∧ ¬ k < -1 ∧ k < 5
  · refine ⟨5, 6, fun v A' => planR A s k v ∧ A' = A, by decide, by decide, mt_post (m_X7_plan s k hp.1 hp.2 σ h) (fun r τ q => ?_), fun τ v A' e g kk => ?_⟩
    · obtain ⟨⟨v, q1, q2⟩, q3, q4⟩ := q
      exact ⟨v, A, q1, ⟨q2, rfl⟩, q3, q4⟩
    · obtain ⟨e1, rfl⟩ := e
      refine ⟨mt_post (m_X8_plan s k hp.1 hp.2 τ kk) (fun r ρ q => ?_), ht⟩
      obtain ⟨⟨v2, q1, q2⟩, q3, q4⟩ := q
      obtain rfl := planR_uniq e1 q2
      exact ⟨q1, q3, q4⟩
  · exact bc_is h ht (m_X7_plan0 s k hp σ h) (fun τ kk => m_X8_plan0 s k hp τ kk) (by decide) (by decide)
theorem bc_middle {S : Scr} {A : Abs} {σ : Sto} (h : RC A σ) (ht : tOk A) (p : Int32) : Bc S yX7_middle cX7_middle 3 yX8_middle cX8_middle 3 [.int p] A σ := by
  have hn := h.1.1
  by_cases hp : ¬ p < 0 ∧ p ≤ 4
  · obtain ⟨q, hq, rfl⟩ := le_nI (n := 4) hp.1 hp.2 (by decide)
    rcases (show q < 4 ∨ q = 4 by omega) with z | rfl
    · exact bc_of (m_X7_middle q z σ h) (fun _ τ k => m_X8_middle q z τ k) ht (by decide) (by decide)
    · exact bc_of (m_X7_middle4 σ h) (fun _ τ k => m_X8_middle4 τ k) ht (by decide) (by decide)
  · exact bc_is h ht (m_X7_middle0 p hp σ) (fun τ k => m_X8_middle0 p hp τ) (by decide) (by decide)
theorem bc_parted {S : Scr} {A : Abs} {σ : Sto} (h : RC A σ) (ht : tOk A) (p : Int32) : Bc S yX7_parted cX7_parted 3 yX8_parted cX8_parted 7 [.int p] A σ := by
  have hn := h.1.1
  by_cases hp : ¬ p < 0 ∧ p ≤ 1
  · obtain ⟨q, hq, rfl⟩ := le_nI (n := 1) hp.1 hp.2 (by decide)
    rcases (show q = 0 ∨ q = 1 by omega) with rfl | rfl
    · exact bc_of (m_X7_parted σ h) (fun _ τ k => m_X8_parted τ k) ht (by decide) (by decide)
    · exact bc_of (m_X7_parted1 σ h) (fun _ τ k => m_X8_parted1 τ k) ht (by decide) (by decide)
  · exact bc_is h ht (m_X7_parted0 p hp σ) (fun τ k => m_X8_parted0 p hp τ) (by decide) (by decide)
theorem bc_odds {S : Scr} {A : Abs} {σ : Sto} (h : RC A σ) (ht : tOk A) (x k w : Int32) : Bc S yX7_odds cX7_odds 4 yX8_odds cX8_odds 10 [.int x, .int k, .int w] A σ := by
  have hn := h.1.1
  by_cases hp : (¬ x < 0 ∧ x ≤ 10) ∧ (¬ k < 0 ∧ k < 7) ∧ ¬ w < 0 ∧ w ≤ 1
  · obtain ⟨q, hq, rfl⟩ := in_nI (n := 7) hp.2.1.1 hp.2.1.2 (by decide)
    exact bc_of (m_X7_odds x hp.1 q hq w hp.2.2 σ h) (fun _ τ k => m_X8_odds x hp.1 q hq w hp.2.2 τ k) ht (by decide) (by decide)
  · exact bc_is h ht (m_X7_odds0 x k w hp σ) (fun τ kk => m_X8_odds0 x k w hp τ) (by decide) (by decide)
theorem bc_sees {S : Scr} {A : Abs} {σ : Sto} (h : RC A σ) (ht : tOk A) (m : Int32) : Bc S yX7_sees cX7_sees 2 yX8_sees cX8_sees 3 [.int m] A σ := by
  have hn := h.1.1
  by_cases hp : ¬ m < 0 ∧ m < 9
  · by_cases hl : (aS A).length < 4
    · exact bc_of (m_X7_sees m hp hl σ h) (fun hA τ k => m_X8_sees m hp hl τ k hA) ht (by decide) (by decide)
    · have hl' : (aS A).length = 4 := by have := h.1.2.2.2.2.2.2.2.1; omega
      exact bc_is h ht (m_X7_sees1 m hp hl' σ h) (fun τ k => m_X8_sees1 m hp hl' τ k) (by decide) (by decide)
  · exact bc_is h ht (m_X7_sees0 m hp σ) (fun τ k => m_X8_sees0 m hp τ) (by decide) (by decide)
theorem bc_forget {S : Scr} {A : Abs} {σ : Sto} (h : RC A σ) (ht : tOk A) : Bc S yX7_forget cX7_forget 2 yX8_forget cX8_forget 2 [] A σ := by
  have hn := h.1.1
  exact bc_of (m_X7_forget σ h) (fun hA τ k => m_X8_forget τ k hA) ht (by decide) (by decide)
theorem bc_likings {S : Scr} {A : Abs} {σ : Sto} (h : RC A σ) (ht : tOk A) (p w : Int32) : Bc S yX7_likings cX7_likings 3 yX8_likings cX8_likings 8 [.int p, .int w] A σ := by
  have hn := h.1.1
  by_cases hp : okP p ∧ ¬ w < 0 ∧ w ≤ 2
  · obtain ⟨q, hq, rfl⟩ := in_nI (n := 4) hp.1.1 hp.1.2 (by decide)
    obtain ⟨u, hu, rfl⟩ := le_nI (n := 2) hp.2.1 hp.2.2 (by decide)
    rcases (show u = 0 ∨ u = 1 ∨ u = 2 by omega) with rfl | rfl | rfl
    · exact bc_of (m_X7_likings0 q hq σ h) (fun _ τ k => m_X8_likings0 q hq τ k) ht (by decide) (by decide)
    · exact bc_of (m_X7_likings1 q hq σ h) (fun _ τ k => m_X8_likings1 q hq τ k) ht (by decide) (by decide)
    · exact bc_of (m_X7_likings2 q hq σ h) (fun _ τ k => m_X8_likings2 q hq τ k) ht (by decide) (by decide)
  · exact bc_is h ht (m_X7_likings_0 p w hp σ) (fun τ k => m_X8_likings_0 p w hp τ) (by decide) (by decide)
theorem bc_ask {S : Scr} {A : Abs} {σ : Sto} (h : RC A σ) (ht : tOk A) : Bc S yX7_ask cX7_ask 1 yX8_ask cX8_ask 5 [] A σ := by
  have hn := h.1.1
  exact bc_of (m_X7_ask σ h) (fun _ τ k => m_X8_ask τ k) ht (by decide) (by decide)
theorem bc_rate {S : Scr} {A : Abs} {σ : Sto} (h : RC A σ) (ht : tOk A) (k b : Int32) : Bc S yX7_rate cX7_rate 3 yX8_rate cX8_rate 6 [.int k, .int b] A σ := by
  have hn := h.1.1
  by_cases hp : (¬ k < 0 ∧ k < 6) ∧ okB A b
  · obtain ⟨q, hq, rfl⟩ := in_nI (n := 6) hp.1.1 hp.1.2 (by decide)
    obtain ⟨u, hu, rfl⟩ := in_nI hp.2.1 hp.2.2 (by omega)
    exact bc_of (m_X7_rate q hq u hu σ h) (fun _ τ k => m_X8_rate q hq u hu τ k) ht (by decide) (by decide)
  · exact bc_is h ht (m_X7_rate0 k b hp σ h) (fun τ kk => m_X8_rate0 k b hp τ kk) (by decide) (by decide)
theorem bc_keep {S : Scr} {A : Abs} {σ : Sto} (h : RC A σ) (ht : tOk A) (i : Int32) : Bc S yX7_keep cX7_keep 2 yX8_keep cX8_keep 2 [.int i] A σ := by
  have hn := h.1.1
  by_cases hp : ¬ i < 0 ∧ i < 2
  · obtain ⟨q, hq, rfl⟩ := in_nI (n := 2) hp.1 hp.2 (by decide)
    exact bc_of (m_X7_keep q hq σ h) (fun hA τ k => m_X8_keep q hq τ k hA) ht (by decide) (by decide)
  · exact bc_is h ht (m_X7_keep0 i hp σ) (fun τ k => m_X8_keep0 i hp τ) (by decide) (by decide)
theorem bc_back {S : Scr} {A : Abs} {σ : Sto} (h : RC A σ) (ht : tOk A) (i : Int32) : Bc S yX7_back cX7_back 2 yX8_back cX8_back 2 [.int i] A σ := by
  have hn := h.1.1
  by_cases hp : ¬ i < 0 ∧ i < 2
  · obtain ⟨q, hq, rfl⟩ := in_nI (n := 2) hp.1 hp.2 (by decide)
    cases hs : aI A q with
    | none => exact bc_is h ht (m_X7_back1 q hq hs σ h) (fun τ k => m_X8_back1 q hq hs τ k) (by decide) (by decide)
    | some s => exact bc_of (m_X7_back q hq s hs σ h) (fun hA τ k => m_X8_back q hq s hs τ k hA) ht (by decide) (by decide)
  · exact bc_is h ht (m_X7_back0 i hp σ) (fun τ k => m_X8_back0 i hp τ) (by decide) (by decide)
theorem bc_count {S : Scr} {A : Abs} {σ : Sto} (h : RC A σ) (ht : tOk A) (w : Int32) : Bc S yX7_count cX7_count 2 yX8_count cX8_count 2 [.int w] A σ := by
  have hn := h.1.1
  exact bc_of (m_X7_count w σ h) (fun _ τ k => m_X8_count w τ k) ht (by decide) (by decide)
