/-! ===== breadth first: pure ===== -/
def runW (x0 : Nat) : Nat → Nat → Nat
  | 0, _ => x0
  | l + 1, n => stp (runW x0 l (n / 5)) (n % 5)
abbrev slt (a b c d : Nat) : Prop := a < c ∨ (a = c ∧ b < d)
theorem runW_lt {x0 : Nat} (h : x0 < 1296) : ∀ l n, runW x0 l n < 1296 := by
  intro l
  induction l with
  | zero => intro n; exact h
  | succ l ih => intro n; exact stp_lt (ih _) (Nat.mod_lt _ (by decide))
theorem pig : ∀ (n : Nat) (l : List Nat), l.Nodup → (∀ x ∈ l, x < n) → l.length ≤ n := by
  intro n
  induction n with
  | zero =>
    intro l _ h
    cases l with
    | nil => exact Nat.le_refl 0
    | cons a t => exact absurd (h a List.mem_cons_self) (Nat.not_lt_zero a)
  | succ n ih =>
    intro l hn h
    by_cases hm : n ∈ l
    · have h1 := ih (l.erase n) (hn.erase n) (fun x hx => by
        have h2 := h x (List.mem_of_mem_erase hx)
        have h3 : x ≠ n := fun e => by rw [e] at hx; exact (hn.not_mem_erase) hx
        omega)
      rw [List.length_erase_of_mem hm] at h1
      omega
    · have := ih l hn (fun x hx => by
        have h2 := h x hx
        have h3 : x ≠ n := fun e => hm (by rw [← e]; exact hx)
        omega)
      omega
/-- queue q, all before i asked, of i's deeds those below d done -/
def BK (c : Nat → Prop) (x0 i d : Nat) (q : List PE) : Prop :=
  q[0]? = some (x0, 0, 0, 9, 0) ∧ i ≤ q.length ∧ q.length ≤ 1296 ∧
  (∀ (j : Nat) (e : PE), q[j]? = some e → e.1 = runW x0 e.2.1 e.2.2.2.2 ∧ e.2.2.2.2 < 5 ^ e.2.1 ∧ e.2.1 ≤ 5 ∧ e.1 < 1296) ∧
  (∀ (j : Nat) (e : PE), q[j]? = some e → 0 < j → (e.2.2.1 < i ∨ (e.2.2.1 = i ∧ e.2.2.2.1 < d)) ∧ e.2.2.1 < j ∧ e.2.2.2.1 < 5 ∧ ∃ e' : PE, q[e.2.2.1]? = some e' ∧ e.2.1 = e'.2.1 + 1 ∧ e.2.2.2.2 = 5 * e'.2.2.2.2 + e.2.2.2.1) ∧
  (∀ (j j' : Nat) (e e' : PE), j < j' → q[j]? = some e → q[j']? = some e' → slt e.2.1 e.2.2.2.2 e'.2.1 e'.2.2.2.2 ∧ e.1 ≠ e'.1) ∧
  (∀ (j : Nat) (e : PE), j < i → q[j]? = some e → ¬ c e.1) ∧
  (∀ (j : Nat) (e : PE) (d' : Nat), (j < i ∧ d' < 5 ∨ j = i ∧ d' < d) → q[j]? = some e → e.2.1 < 5 → ∃ (j' : Nat) (e' : PE), q[j']? = some e' ∧ e'.1 = stp e.1 d' ∧ ¬ slt (e.2.1 + 1) (5 * e.2.2.2.2 + d') e'.2.1 e'.2.2.2.2)
theorem bk_init {c : Nat → Prop} {x0 : Nat} (h : x0 < 1296) : BK c x0 0 0 [(x0, 0, 0, 9, 0)] := by
  have one : ∀ (j : Nat) (e : PE), ([(x0, 0, 0, 9, 0)] : List PE)[j]? = some e → j = 0 ∧ e = (x0, 0, 0, 9, 0) := by
    intro j e he
    have h1 := (List.getElem?_eq_some_iff.mp he).1
    have h2 : j = 0 := by simpa using h1
    subst h2
    exact ⟨rfl, (Option.some.inj he).symm⟩
  refine ⟨rfl, Nat.zero_le _, by simp, fun j e he => ?_, fun j e he hj => ?_, fun j j' e e' hj he he' => ?_, fun j e hj => by omega, fun j e d' hj => by omega⟩
  · obtain ⟨-, rfl⟩ := one j e he
    exact ⟨rfl, by show 0 < 5 ^ 0; decide, by show 0 ≤ 5; decide, h⟩
  · obtain ⟨h0, -⟩ := one j e he
    omega
  · obtain ⟨h0, -⟩ := one j e he
    obtain ⟨h1, -⟩ := one j' e' he'
    omega
theorem bk_below {c : Nat → Prop} {x0 i d : Nat} {q : List PE} (h : BK c x0 i d q) {e : PE} (he : q[i]? = some e) {j : Nat} {e' : PE} (hj : q[j]? = some e') : slt e'.2.1 e'.2.2.2.2 (e.2.1 + 1) (5 * e.2.2.2.2 + d) := by
  obtain ⟨h0, hi, hl, hr, hp, hs, hn, hc⟩ := h
  rcases Nat.eq_zero_or_pos j with z | z
  · subst z
    rw [h0] at hj
    cases hj
    exact Or.inl (Nat.succ_pos _)
  · obtain ⟨h1, h2, h3, e2, h4, h5, h6⟩ := hp j e' hj z
    rcases h1 with h1 | ⟨h1, h7⟩
    · obtain ⟨g, -⟩ := hs _ _ _ _ h1 h4 he
      show slt _ _ _ _
      rw [h5, h6]
      rcases g with g | ⟨g1, g2⟩
      · exact Or.inl (by omega)
      · exact Or.inr ⟨by omega, by omega⟩
    · rw [h1] at h4
      cases he.symm.trans h4
      rw [h5, h6]
      exact Or.inr ⟨rfl, by omega⟩
theorem bk_push {c : Nat → Prop} {x0 i d : Nat} {q : List PE} (h : BK c x0 i d q) {e : PE} (he : q[i]? = some e) (hL : e.2.1 < 5) (hd : d < 5) : BK c x0 i (d + 1) (psh q (stp e.1 d, e.2.1 + 1, i, d, 5 * e.2.2.2.2 + d)) := by
  have hb := fun (j : Nat) (e' : PE) (hj : q[j]? = some e') => bk_below h he hj
  obtain ⟨h0, hi, hl, hr, hp, hs, hn, hc⟩ := id h
  have hil : i < q.length := (List.getElem?_eq_some_iff.mp he).1
  obtain ⟨er, en, el, ex⟩ := hr i e he
  by_cases hx : ∃ e' ∈ q, e'.1 = stp e.1 d
  · have eq : psh q (stp e.1 d, e.2.1 + 1, i, d, 5 * e.2.2.2.2 + d) = q := by unfold psh; rw [if_pos (Or.inl hx)]
    rw [eq]
    refine ⟨h0, hi, hl, hr, fun j e2 hj z => ?_, hs, hn, fun j e2 d' hj he2 hL2 => ?_⟩
    · obtain ⟨a, b⟩ := hp j e2 hj z
      exact ⟨by omega, b⟩
    · rcases (show (j < i ∧ d' < 5 ∨ j = i ∧ d' < d) ∨ (j = i ∧ d' = d) by omega) with z | ⟨rfl, rfl⟩
      · exact hc j e2 d' z he2 hL2
      · cases he.symm.trans he2
        obtain ⟨e', hm, hx'⟩ := hx
        obtain ⟨j', hj'⟩ := List.getElem?_of_mem hm
        refine ⟨j', e', hj', hx', fun z => ?_⟩
        have := hb j' e' hj'
        omega
  · have hlen : q.length < 1296 := by
      have hnd : (stp e.1 d :: q.map (fun e => e.1)).Nodup := by
        refine List.nodup_cons.mpr ⟨fun z => ?_, ?_⟩
        · obtain ⟨e', hm, hx'⟩ := List.mem_map.mp z
          exact hx ⟨e', hm, hx'⟩
        · show List.Pairwise (· ≠ ·) _
          rw [List.pairwise_map, List.pairwise_iff_getElem]
          intro a b ha hb' hab
          exact (hs a b _ _ hab (List.getElem?_eq_getElem ha) (List.getElem?_eq_getElem hb')).2
      have := pig 1296 _ hnd (fun y hy => by
        rcases List.mem_cons.mp hy with z | z
        · rw [z]; exact stp_lt ex hd
        · obtain ⟨e', hm, hx'⟩ := List.mem_map.mp z
          obtain ⟨j', hj'⟩ := List.getElem?_of_mem hm
          rw [← hx']; exact (hr j' e' hj').2.2.2)
      simp at this
      omega
    have eq : psh q (stp e.1 d, e.2.1 + 1, i, d, 5 * e.2.2.2.2 + d) = q ++ [(stp e.1 d, e.2.1 + 1, i, d, 5 * e.2.2.2.2 + d)] := by
      unfold psh; rw [if_neg (fun z => by rcases z with z | z; exact hx z; omega)]
    rw [eq]
    have old : ∀ (j : Nat) (e' : PE), q[j]? = some e' → (q ++ [(stp e.1 d, e.2.1 + 1, i, d, 5 * e.2.2.2.2 + d)])[j]? = some e' := fun j e' hj => by
      rw [List.getElem?_append_left (List.getElem?_eq_some_iff.mp hj).1]; exact hj
    have inv : ∀ (j : Nat) (e' : PE), (q ++ [(stp e.1 d, e.2.1 + 1, i, d, 5 * e.2.2.2.2 + d)])[j]? = some e' → q[j]? = some e' ∨ (j = q.length ∧ e' = (stp e.1 d, e.2.1 + 1, i, d, 5 * e.2.2.2.2 + d)) := fun j e' hj => by
      rcases Nat.lt_or_ge j q.length with z | z
      · rw [List.getElem?_append_left z] at hj
        exact Or.inl hj
      · rw [List.getElem?_append_right z] at hj
        have h1 : j - q.length < 1 := (List.getElem?_eq_some_iff.mp hj).1
        have h2 : j - q.length = 0 := by omega
        rw [h2] at hj
        exact Or.inr ⟨by omega, (Option.some.inj hj).symm⟩
    refine ⟨old 0 _ h0, by simp; omega, by simp; omega, fun j e2 hj => ?_, fun j e2 hj z => ?_, fun j j' e2 e3 hjj hj hj' => ?_, fun j e2 hj hj2 => ?_, fun j e2 d' hj he2 hL2 => ?_⟩
    · rcases inv j e2 hj with z | ⟨-, rfl⟩
      · exact hr j e2 z
      · refine ⟨?_, ?_, by show e.2.1 + 1 ≤ 5; omega, stp_lt ex hd⟩
        · show stp e.1 d = stp (runW x0 e.2.1 ((5 * e.2.2.2.2 + d) / 5)) ((5 * e.2.2.2.2 + d) % 5)
          rw [show (5 * e.2.2.2.2 + d) / 5 = e.2.2.2.2 by omega, show (5 * e.2.2.2.2 + d) % 5 = d by omega, ← er]
        · show 5 * e.2.2.2.2 + d < 5 ^ (e.2.1 + 1)
          rw [Nat.pow_succ]; omega
    · rcases inv j e2 hj with y | ⟨hj2, rfl⟩
      · obtain ⟨a, b, b2, e3, b3, b4⟩ := hp j e2 y z
        exact ⟨by omega, b, b2, e3, old _ _ b3, b4⟩
      · exact ⟨Or.inr ⟨rfl, Nat.lt_succ_self d⟩, by show i < j; omega, hd, e, old _ _ he, rfl, rfl⟩
    · rcases inv j e2 hj with y | ⟨y, rfl⟩
      · rcases inv j' e3 hj' with w | ⟨w, rfl⟩
        · exact hs j j' e2 e3 hjj y w
        · exact ⟨hb j e2 y, fun z => hx ⟨e2, List.mem_of_getElem? y, z⟩⟩
      · rcases inv j' e3 hj' with w | ⟨w, -⟩
        · have := (List.getElem?_eq_some_iff.mp w).1
          omega
        · omega
    · rcases inv j e2 hj2 with y | ⟨y, -⟩
      · exact hn j e2 hj y
      · omega
    · have hq : q[j]? = some e2 := by
        rcases inv j e2 he2 with y | ⟨y, -⟩
        · exact y
        · omega
      rcases (show (j < i ∧ d' < 5 ∨ j = i ∧ d' < d) ∨ (j = i ∧ d' = d) by omega) with z | ⟨rfl, rfl⟩
      · obtain ⟨j', e', a, b⟩ := hc j e2 d' z hq hL2
        exact ⟨j', e', old _ _ a, b⟩
      · cases he.symm.trans hq
        exact ⟨q.length, _, by rw [List.getElem?_append_right (Nat.le_refl _), Nat.sub_self]; rfl, rfl, fun z => by
          have z : slt (e.2.1 + 1) (5 * e.2.2.2.2 + d') (e.2.1 + 1) (5 * e.2.2.2.2 + d') := z
          rcases z with z | z <;> omega⟩
theorem bk_next {c : Nat → Prop} {x0 i : Nat} {q : List PE} {d : Nat} (h : BK c x0 i d q) {e : PE} (he : q[i]? = some e) (hc : ¬ c e.1) (hd : d = 5 ∨ (d = 0 ∧ ¬ e.2.1 < 5)) : BK c x0 (i + 1) 0 q := by
  obtain ⟨h0, hi, hl, hr, hp, hs, hn, hv⟩ := h
  have hil : i < q.length := (List.getElem?_eq_some_iff.mp he).1
  refine ⟨h0, by omega, hl, hr, fun j e2 hj z => ?_, hs, fun j e2 hj hj2 => ?_, fun j e2 d' hj he2 hL2 => ?_⟩
  · obtain ⟨a, b⟩ := hp j e2 hj z
    exact ⟨Or.inl (by omega), b⟩
  · rcases Nat.lt_or_ge j i with z | z
    · exact hn j e2 z hj2
    · obtain rfl : j = i := by omega
      cases he.symm.trans hj2
      exact hc
  · rcases Nat.lt_or_ge j i with z | z
    · exact hv j e2 d' (Or.inl ⟨z, by omega⟩) he2 hL2
    · obtain rfl : j = i := by omega
      cases he.symm.trans he2
      rcases hd with hd | ⟨-, hd⟩
      · exact hv j e d' (Or.inr ⟨rfl, by omega⟩) he hL2
      · exact absurd hL2 hd
theorem bk_cov {c : Nat → Prop} {x0 i : Nat} {q : List PE} (h : BK c x0 i 0 q) : ∀ l n, l ≤ 5 → n < 5 ^ l → (∀ e : PE, q[i]? = some e → ¬ slt e.2.1 e.2.2.2.2 l n) → ∃ (j : Nat) (e' : PE), q[j]? = some e' ∧ e'.1 = runW x0 l n ∧ ¬ slt l n e'.2.1 e'.2.2.2.2 := by
  obtain ⟨h0, hi, hl, hr, hp, hs, hn, hv⟩ := h
  intro l
  induction l with
  | zero =>
    intro n _ hn0 _
    refine ⟨0, _, h0, rfl, fun z => ?_⟩
    rcases z with z | z <;> simp at z
  | succ l ih =>
    intro n hl5 hn5 hw
    rw [Nat.pow_succ] at hn5
    have hn5' : n < 5 ^ l * 5 := hn5
    obtain ⟨j0, e0, g1, g2, g3⟩ := ih (n / 5) (by omega) (by omega) (fun e he z => hw e he (by
      rcases z with z | z
      · exact Or.inl (by omega)
      · exact Or.inl (by omega)))
    have hj0 : j0 < i := by
      rcases Nat.lt_or_ge j0 i with z | z
      · exact z
      · have hlt : j0 < q.length := (List.getElem?_eq_some_iff.mp g1).1
        obtain ⟨e, he⟩ : ∃ e, q[i]? = some e := ⟨q[i]'(by omega), List.getElem?_eq_getElem (by omega)⟩
        have h1 := hw e he
        rcases Nat.eq_or_lt_of_le z with y | y
        · subst y
          cases he.symm.trans g1
          omega
        · obtain ⟨s, -⟩ := hs i j0 e e0 y he g1
          omega
    obtain ⟨j', e', a1, a2, a3⟩ := hv j0 e0 (n % 5) (Or.inl ⟨hj0, Nat.mod_lt _ (by decide)⟩) g1 (by omega)
    refine ⟨j', e', a1, ?_, fun z => a3 ?_⟩
    · rw [a2, g2]; rfl
    · rcases (show e0.2.1 < l ∨ (e0.2.1 = l ∧ e0.2.2.2.2 ≤ n / 5) by omega) with y | ⟨y1, y2⟩
      · rcases z with z | z
        · exact Or.inl (by omega)
        · exact Or.inl (by omega)
      · rcases z with z | z
        · exact Or.inl (by omega)
        · exact Or.inr ⟨by omega, by omega⟩
/-- the first row of deeds (by how many, then by the first deed ..) behind which c holds -/
def Frst (c : Nat → Prop) (x0 l n : Nat) : Prop := l ≤ 5 ∧ n < 5 ^ l ∧ c (runW x0 l n) ∧ ∀ l' n', n' < 5 ^ l' → slt l' n' l n → ¬ c (runW x0 l' n')
theorem bk_found {c : Nat → Prop} {x0 i : Nat} {q : List PE} (h : BK c x0 i 0 q) {e : PE} (he : q[i]? = some e) (hc : c e.1) : Frst c x0 e.2.1 e.2.2.2.2 := by
  have hv := bk_cov h
  obtain ⟨h0, hi, hl, hr, hp, hs, hn, -⟩ := id h
  obtain ⟨er, en, el, ex⟩ := hr i e he
  refine ⟨el, en, by rw [← er]; exact hc, fun l' n' hn' hs' => ?_⟩
  obtain ⟨j, e', a1, a2, a3⟩ := hv l' n' (by omega) hn' (fun e2 he2 z => by
    cases he.symm.trans he2
    omega)
  rw [← a2]
  refine hn j e' ?_ a1
  rcases Nat.lt_or_ge j i with z | z
  · exact z
  · rcases Nat.eq_or_lt_of_le z with y | y
    · subst y
      cases he.symm.trans a1
      omega
    · obtain ⟨s, -⟩ := hs i j e e' y he a1
      omega
theorem bk_end {c : Nat → Prop} {x0 : Nat} {q : List PE} (h : BK c x0 q.length 0 q) : ∀ l n, l ≤ 5 → n < 5 ^ l → ¬ c (runW x0 l n) := by
  intro l n hl hn
  obtain ⟨j, e', a1, a2, -⟩ := bk_cov h l n hl hn (fun e he => by
    have := (List.getElem?_eq_some_iff.mp he).1
    omega)
  rw [← a2]
  exact h.2.2.2.2.2.2.1 j e' (List.getElem?_eq_some_iff.mp a1).1 a1
