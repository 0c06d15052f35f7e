/-! ===== odds: all sets of colds, and the ways, in plain numbers ===== -/
def wN (cs : Nat → Nat) : Nat → Nat → Nat
  | 0, j => if j = 0 then 1 else 0
  | b + 1, j => wN cs b j * (10 - cs b) + (if j = 0 then 0 else wN cs b (j - 1)) * cs b
theorem wN_z (cs : Nat → Nat) : ∀ b j, b < j → wN cs b j = 0 := by
  intro b
  induction b with
  | zero => intro j hj; show (if j = 0 then 1 else 0) = 0; rw [if_neg (by omega)]
  | succ b ih => intro j hj; show wN cs b j * _ + (if j = 0 then 0 else wN cs b (j - 1)) * _ = 0; rw [ih j (by omega), if_neg (by omega), ih (j - 1) (by omega), Nat.zero_mul, Nat.zero_mul]
def SS (g : Nat → Nat) (k : Nat) : Nat → Nat
  | 0 => 0
  | d + 1 => SS g k d + g (k + d)
theorem SS_lin (f g : Nat → Nat) (x y : Nat) (k : Nat) : ∀ d, SS (fun j => f j * x + g j * y) k d = SS f k d * x + SS g k d * y := by
  intro d
  induction d with
  | zero => show 0 = 0 * x + 0 * y; omega
  | succ d ih => show SS _ k d + (f (k + d) * x + g (k + d) * y) = (SS f k d + f (k + d)) * x + (SS g k d + g (k + d)) * y; rw [ih, Nat.add_mul, Nat.add_mul]; omega
abbrev befF (f : Nat → Nat) (j : Nat) : Nat := if j = 0 then 0 else f (j - 1)
theorem SS_bef1 (f : Nat → Nat) (k : Nat) : ∀ d, SS (befF f) (k + 1) d = SS f k d := by
  intro d
  induction d with
  | zero => rfl
  | succ d ih => show SS _ (k + 1) d + befF f (k + 1 + d) = SS f k d + f (k + d); rw [ih]; unfold befF; rw [if_neg (by omega), show k + 1 + d - 1 = k + d by omega]
theorem SS_bef0 (f : Nat → Nat) : ∀ d, SS (befF f) 0 (d + 1) = SS f 0 d := by
  intro d
  induction d with
  | zero => rfl
  | succ d ih => show SS (befF f) 0 (d + 1) + befF f (0 + (d + 1)) = SS f 0 d + f (0 + d); rw [ih]; unfold befF; rw [if_neg (by omega), show 0 + (d + 1) - 1 = 0 + d by omega]
def VN (cs : Nat → Nat) (n k : Nat) : Nat := SS (wN cs n) k (7 - k)
theorem VN_rec (cs : Nat → Nat) {n k : Nat} (hn : n ≤ 5) (hk : k ≤ 7) : VN cs (n + 1) k = VN cs n k * (10 - cs n) + VN cs n (k - 1) * cs n := by
  have e : VN cs (n + 1) k = SS (wN cs n) k (7 - k) * (10 - cs n) + SS (befF (wN cs n)) k (7 - k) * cs n := SS_lin (wN cs n) (befF (wN cs n)) (10 - cs n) (cs n) k (7 - k)
  rw [e]
  have z : wN cs n 6 = 0 := wN_z cs n 6 (by omega)
  have key : SS (befF (wN cs n)) k (7 - k) = VN cs n (k - 1) := by
    cases k with
    | zero =>
      show SS (befF (wN cs n)) 0 (6 + 1) = SS (wN cs n) 0 6 + wN cs n (0 + 6)
      rw [SS_bef0, Nat.zero_add, z, Nat.add_zero]
    | succ k =>
      rw [SS_bef1]
      show _ = SS (wN cs n) k (7 - k)
      rw [show 7 - k = (7 - (k + 1)) + 1 by omega]
      show _ = SS (wN cs n) k (7 - (k + 1)) + wN cs n (k + (7 - (k + 1)))
      have q : wN cs n (k + (7 - (k + 1))) = 0 := by rw [show k + (7 - (k + 1)) = 6 by omega]; exact z
      omega
  rw [key]; rfl
theorem VN_all (cs : Nat → Nat) (hc : ∀ b, cs b ≤ 10) : ∀ n, n ≤ 6 → VN cs n 0 = 10 ^ n := by
  intro n
  induction n with
  | zero => intro _; rfl
  | succ n ih =>
    intro hn
    rw [VN_rec cs (by omega) (by omega), Nat.zero_sub, ← Nat.mul_add, ih (by omega), Nat.pow_succ, show 10 - cs n + cs n = 10 by have := hc n; omega]
abbrev tb (s b : Nat) : Prop := s / 2 ^ b % 2 = 1
def wtN (x : Nat) (s : Nat) : Nat → Nat
  | 0 => 1
  | b + 1 => wtN x s b * (if tb s b then x else 10 - x)
def cnN (c0 c1 : Nat → Nat) (s : Nat) : Nat → Nat
  | 0 => 0
  | b + 1 => cnN c0 c1 s b + (if tb s b then c1 b else c0 b)
theorem tb_up : ∀ n, n < 6 → ∀ s, s < 64 → ∀ b, b < n → ((2 ^ n + s) / 2 ^ b % 2 = s / 2 ^ b % 2) := by decide +kernel
theorem tb_top : ∀ n, n < 6 → ∀ s, s < 2 ^ n → tb (2 ^ n + s) n ∧ ¬ tb s n := by decide +kernel
theorem wt_up {x n s : Nat} (hn : n < 6) (hs : s < 64) : ∀ b, b ≤ n → wtN x (2 ^ n + s) b = wtN x s b := by
  intro b
  induction b with
  | zero => intro _; rfl
  | succ b ih => intro hb; unfold wtN tb; rw [ih (by omega), tb_up n hn s hs b (by omega)]
theorem cn_up {c0 c1 : Nat → Nat} {n s : Nat} (hn : n < 6) (hs : s < 64) : ∀ b, b ≤ n → cnN c0 c1 (2 ^ n + s) b = cnN c0 c1 s b := by
  intro b
  induction b with
  | zero => intro _; rfl
  | succ b ih => intro hb; unfold cnN tb; rw [ih (by omega), tb_up n hn s hs b (by omega)]
theorem SS_add (g : Nat → Nat) (m : Nat) : ∀ d, SS g 0 (m + d) = SS g 0 m + SS (fun s => g (m + s)) 0 d := by
  intro d
  induction d with
  | zero => rfl
  | succ d ih => show SS g 0 (m + d) + g (0 + (m + d)) = SS g 0 m + (SS _ 0 d + g (m + (0 + d))); rw [ih, Nat.zero_add, Nat.zero_add]; omega
theorem SS_congr {f g : Nat → Nat} : ∀ d, (∀ s, s < d → f s = g s) → SS f 0 d = SS g 0 d := by
  intro d
  induction d with
  | zero => intro _; rfl
  | succ d ih => intro h; show SS f 0 d + f (0 + d) = SS g 0 d + g (0 + d); rw [ih (fun s hs => h s (by omega)), Nat.zero_add, h d (by omega)]
theorem SS_mul (f : Nat → Nat) (y : Nat) : ∀ d, SS (fun s => f s * y) 0 d = SS f 0 d * y := by
  intro d
  induction d with
  | zero => show 0 = 0 * y; omega
  | succ d ih => show SS _ 0 d + f (0 + d) * y = (SS f 0 d + f (0 + d)) * y; rw [ih, Nat.add_mul]
abbrev trm (c0 c1 : Nat → Nat) (x n k s : Nat) : Nat := if cnN c0 c1 s n < k then 0 else wtN x s n
def UN (c0 c1 : Nat → Nat) (x n k : Nat) : Nat := SS (trm c0 c1 x n k) 0 (2 ^ n)
theorem trm_s {c0 c1 : Nat → Nat} {x n k s t c y : Nat} (hc : cnN c0 c1 s (n + 1) = cnN c0 c1 t n + c) (hw : wtN x s (n + 1) = wtN x t n * y) : trm c0 c1 x (n + 1) k s = trm c0 c1 x n (k - c) t * y := by
  unfold trm
  rw [hc, hw]
  by_cases z : cnN c0 c1 t n + c < k
  · rw [if_pos z, if_pos (by omega), Nat.zero_mul]
  · rw [if_neg z, if_neg (by omega)]
theorem UN_rec (c0 c1 : Nat → Nat) (x : Nat) {n : Nat} (k : Nat) (hn : n < 6) : UN c0 c1 x (n + 1) k = UN c0 c1 x n (k - c0 n) * (10 - x) + UN c0 c1 x n (k - c1 n) * x := by
  have h64 : 2 ^ n ≤ 64 := (pow_n n (by omega)).1
  unfold UN
  rw [Nat.pow_succ, Nat.mul_two, SS_add, ← SS_mul, ← SS_mul]
  congr 1
  · refine SS_congr _ (fun s hs => trm_s ?_ ?_)
    · show cnN c0 c1 s n + (if tb s n then c1 n else c0 n) = _; rw [if_neg (tb_top n hn s hs).2]
    · show wtN x s n * (if tb s n then x else 10 - x) = _; rw [if_neg (tb_top n hn s hs).2]
  · refine SS_congr _ (fun s hs => trm_s ?_ ?_)
    · show cnN c0 c1 (2 ^ n + s) n + (if tb (2 ^ n + s) n then c1 n else c0 n) = _; rw [if_pos (tb_top n hn s hs).1, cn_up hn (by omega) n (Nat.le_refl n)]
    · show wtN x (2 ^ n + s) n * (if tb (2 ^ n + s) n then x else 10 - x) = _; rw [if_pos (tb_top n hn s hs).1, wt_up hn (by omega) n (Nat.le_refl n)]
theorem UN_VN (c0 c1 cs : Nat → Nat) (x : Nat) (hx : x ≤ 10) (h0 : ∀ b, c0 b = 0 ∨ c0 b = 1) (h1 : ∀ b, c1 b = 0 ∨ c1 b = 1) (hcs : ∀ b, cs b = c1 b * x + c0 b * (10 - x)) : ∀ n, n ≤ 6 → ∀ k, k ≤ 7 → UN c0 c1 x n k = VN cs n k := by
  intro n
  induction n with
  | zero =>
    intro _ k hk
    match k, hk with
    | 0, _ => rfl
    | 1, _ => rfl
    | 2, _ => rfl
    | 3, _ => rfl
    | 4, _ => rfl
    | 5, _ => rfl
    | 6, _ => rfl
    | 7, _ => rfl
  | succ n ih =>
    intro hn k hk
    rw [UN_rec c0 c1 x k (by omega), VN_rec cs (by omega) hk, ih (by omega) _ (by omega), ih (by omega) _ (by omega), hcs n]
    rcases h0 n with e0 | e0 <;> rcases h1 n with e1 | e1 <;> rw [e0, e1]
    · rw [Nat.sub_zero, ← Nat.mul_add, show 10 - x + x = 10 by omega, show 10 - (0 * x + 0 * (10 - x)) = 10 by omega, show 0 * x + 0 * (10 - x) = 0 by omega, Nat.mul_zero, Nat.add_zero]
    · rw [Nat.sub_zero, show 1 * x + 0 * (10 - x) = x by omega]
    · rw [Nat.sub_zero, show 0 * x + 1 * (10 - x) = 10 - x by omega, show 10 - (10 - x) = x by omega, Nat.add_comm]
    · rw [← Nat.mul_add, show 10 - x + x = 10 by omega, show 10 - (1 * x + 1 * (10 - x)) = 0 by omega, show 1 * x + 1 * (10 - x) = 10 by omega, Nat.mul_zero, Nat.zero_add]
