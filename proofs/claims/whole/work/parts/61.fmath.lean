/-! sums over sets, weighed one by one -/
def pw (w : Nat → Bool → Nat) : Nat → Nat → Nat
  | 0, _ => 1
  | n + 1, s => pw w n s * w n (s.testBit n)
def pE (w : Nat → Bool → Nat) : Nat → (Nat → Nat) → Nat
  | 0, v => v 0
  | n + 1, v => w n false * pE w n v + w n true * pE w n (fun s => v (s + 2 ^ n))
theorem smU_add (f : Nat → Nat) (n : Nat) : ∀ m, smU f (n + m) = smU f n + smU (fun i => f (n + i)) m
  | 0 => rfl
  | m + 1 => by show smU f (n + m) + f (n + m) = smU f n + (smU (fun i => f (n + i)) m + f (n + m)); rw [smU_add f n m]; omega
theorem smU_cg {f g : Nat → Nat} : ∀ n, (∀ i, i < n → f i = g i) → smU f n = smU g n
  | 0, _ => rfl
  | n + 1, e => by show smU f n + f n = smU g n + g n; rw [smU_cg n (fun i hi => e i (by omega)), e n (by omega)]
theorem smU_mul (c : Nat) (f : Nat → Nat) : ∀ n, smU (fun i => c * f i) n = c * smU f n
  | 0 => rfl
  | n + 1 => by show smU (fun i => c * f i) n + c * f n = c * (smU f n + f n); rw [smU_mul c f n, Nat.mul_add]
theorem pw_cg {w : Nat → Bool → Nat} {s s' : Nat} : ∀ n, (∀ i, i < n → s.testBit i = s'.testBit i) → pw w n s = pw w n s'
  | 0, _ => rfl
  | n + 1, e => by show pw w n s * w n (s.testBit n) = pw w n s' * w n (s'.testBit n); rw [pw_cg n (fun i hi => e i (by omega)), e n (by omega)]
theorem tb_add {s n i : Nat} (hs : s < 2 ^ n) (hi : i < n) : (s + 2 ^ n).testBit i = s.testBit i := by
  rw [Nat.add_comm]; exact Nat.testBit_two_pow_add_gt hi s
theorem tb_top {s n : Nat} (hs : s < 2 ^ n) : (s + 2 ^ n).testBit n = true := by
  rw [Nat.add_comm, Nat.testBit_two_pow_add_eq, Nat.testBit_lt_two_pow hs]; rfl
theorem pE_cg {w : Nat → Bool → Nat} : ∀ n (v v' : Nat → Nat), (∀ s, s < 2 ^ n → v s = v' s) → pE w n v = pE w n v'
  | 0, _, _, e => e 0 (by decide)
  | n + 1, v, v', e => by
    have p : 2 ^ (n + 1) = 2 ^ n + 2 ^ n := by rw [Nat.pow_succ]; omega
    show w n false * pE w n v + w n true * pE w n (fun s => v (s + 2 ^ n)) = w n false * pE w n v' + w n true * pE w n (fun s => v' (s + 2 ^ n))
    rw [pE_cg n v v' (fun s hs => e s (by omega)), pE_cg n (fun s => v (s + 2 ^ n)) (fun s => v' (s + 2 ^ n)) (fun s hs => e _ (by omega))]
theorem smU_pE (w : Nat → Bool → Nat) : ∀ n (v : Nat → Nat), smU (fun s => pw w n s * v s) (2 ^ n) = pE w n v
  | 0, v => by show 0 + 1 * v 0 = v 0; omega
  | n + 1, v => by
    have p : 2 ^ (n + 1) = 2 ^ n + 2 ^ n := by rw [Nat.pow_succ]; omega
    rw [p, smU_add]
    show _ = w n false * pE w n v + w n true * pE w n (fun s => v (s + 2 ^ n))
    rw [← smU_pE w n v, ← smU_pE w n (fun s => v (s + 2 ^ n)), ← smU_mul, ← smU_mul]
    congr 1
    · refine smU_cg _ (fun i hi => ?_)
      show pw w n i * w n (i.testBit n) * v i = w n false * (pw w n i * v i)
      rw [Nat.testBit_lt_two_pow hi, Nat.mul_comm (pw w n i), Nat.mul_assoc]
    · refine smU_cg _ (fun i hi => ?_)
      show pw w n (2 ^ n + i) * w n ((2 ^ n + i).testBit n) * v (2 ^ n + i) = w n true * (pw w n i * v (i + 2 ^ n))
      rw [Nat.add_comm (2 ^ n) i, tb_top hi, pw_cg (s := i + 2 ^ n) (s' := i) n (fun j hj => tb_add hi hj), Nat.mul_comm (pw w n i), Nat.mul_assoc]
/-- the weights: of those who may stay away, and of those who are well or not -/
def wD (x gs : Nat) (g : Nat) (b : Bool) : Nat := if gs.testBit g then (if b then 10 - x else x) else (if b then 0 else 1)
def wR (T : Tn) (x : Nat) (g : Nat) (b : Bool) : Nat := if 0 < T (44 + g) then (if b then 0 else 1) else (if b then x else 10 - x)
/-- of the guests those who do not fall -/
def sty (gs : Nat) : Nat → Nat → Nat
  | 0, _ => 0
  | n + 1, s => sty gs n s + (if gs.testBit n && !s.testBit n then 2 ^ n else 0)
theorem sty_cg {gs s s' : Nat} : ∀ n, (∀ i, i < n → s.testBit i = s'.testBit i) → sty gs n s = sty gs n s'
  | 0, _ => rfl
  | n + 1, e => by show sty gs n s + _ = sty gs n s' + _; rw [sty_cg n (fun i hi => e i (by omega)), e n (by omega)]
def kkn (T : Tn) (gs : Nat) : Nat → Nat
  | 0 => 0
  | n + 1 => kkn T gs n + (if gs.testBit n then 0 else if 0 < T (44 + n) then 0 else 1)
theorem pE_RD {T : Tn} {x gs : Nat} (hx : x ≤ 10) : ∀ n (P : Nat → Nat), (∀ g, g < n → gs.testBit g = true → T (44 + g) = 0) → pE (wR T x) n (fun s => P (sty gs n s)) = 10 ^ kkn T gs n * pE (wD x gs) n P
  | 0, P, _ => by show P 0 = 1 * P 0; omega
  | n + 1, P, hw => by
    show wR T x n false * pE (wR T x) n (fun s => P (sty gs (n + 1) s)) + wR T x n true * pE (wR T x) n (fun s => P (sty gs (n + 1) (s + 2 ^ n))) = 10 ^ (kkn T gs n + _) * (wD x gs n false * pE (wD x gs) n P + wD x gs n true * pE (wD x gs) n (fun s => P (s + 2 ^ n)))
    have i1 := pE_RD (T := T) (gs := gs) hx n P (fun g hg => hw g (by omega))
    have i2 := pE_RD (T := T) (gs := gs) hx n (fun s => P (s + 2 ^ n)) (fun g hg => hw g (by omega))
    have e2 : pE (wR T x) n (fun s => P (sty gs (n + 1) (s + 2 ^ n))) = pE (wR T x) n (fun s => P (sty gs n s)) := pE_cg n _ _ (fun s hs => by
      show P (sty gs n (s + 2 ^ n) + _) = _
      rw [sty_cg (s' := s) n (fun i hi => tb_add hs hi), tb_top hs, Bool.not_true, Bool.and_false]; rfl)
    rw [e2, i1]
    cases q : gs.testBit n with
    | true =>
      have e1 : pE (wR T x) n (fun s => P (sty gs (n + 1) s)) = pE (wR T x) n (fun s => P (sty gs n s + 2 ^ n)) := pE_cg n _ _ (fun s hs => by
        show P (sty gs n s + _) = _
        rw [Nat.testBit_lt_two_pow hs, q]; rfl)
      have z := hw n (by omega) q
      have z1 : ¬ 0 < T (44 + n) := by omega
      rw [e1, i2, wR, if_neg z1, wR, if_neg z1, wD, q, wD, q]
      show (10 - x) * _ + x * _ = 10 ^ (kkn T gs n + 0) * (x * _ + (10 - x) * _)
      rw [Nat.add_zero, Nat.mul_add, Nat.add_comm, Nat.mul_left_comm x, Nat.mul_left_comm (10 - x)]
    | false =>
      have e1 : pE (wR T x) n (fun s => P (sty gs (n + 1) s)) = pE (wR T x) n (fun s => P (sty gs n s)) := pE_cg n _ _ (fun s hs => by
        show P (sty gs n s + _) = _
        rw [q]; rfl)
      rw [e1, i1, wD, q, wD, q]
      by_cases z : 0 < T (44 + n)
      · rw [wR, if_pos z, wR, if_pos z, if_pos z]
        show 1 * _ + 0 * _ = 10 ^ (kkn T gs n + 0) * (1 * _ + 0 * _)
        rw [Nat.add_zero, Nat.zero_mul, Nat.zero_mul, Nat.add_zero, Nat.add_zero, Nat.one_mul, Nat.one_mul]
      · rw [wR, if_neg z, wR, if_neg z, if_neg z]
        show (10 - x) * _ + x * _ = 10 ^ (kkn T gs n + 1) * (1 * _ + 0 * _)
        rw [← Nat.add_mul, show 10 - x + x = 10 by omega, Nat.zero_mul, Nat.add_zero, Nat.one_mul, Nat.pow_succ, Nat.mul_comm _ 10, Nat.mul_assoc]; rfl
/-- the developers' sum -/
def popn (n b : Nat) : Nat := smU (fun j => if b.testBit j then 1 else 0) n
def sbn (gs w : Nat) : Nat → Bool
  | 0 => true
  | n + 1 => sbn gs w n && (!w.testBit n || gs.testBit n)
theorem pw_D {x gs w : Nat} : ∀ n, pw (wD x gs) n w = if sbn gs w n then (10 - x) ^ popn n w * x ^ (popn n gs - popn n w) else 0
  | 0 => by show 1 = if true = true then 1 * 1 else 0; rfl
  | n + 1 => by
    show pw (wD x gs) n w * wD x gs n (w.testBit n) = if (sbn gs w n && (!w.testBit n || gs.testBit n)) = true then (10 - x) ^ (popn n w + if w.testBit n then 1 else 0) * x ^ ((popn n gs + if gs.testBit n then 1 else 0) - (popn n w + if w.testBit n then 1 else 0)) else 0
    have le : sbn gs w n = true → popn n w ≤ popn n gs := by
      clear pw_D
      induction n with
      | zero => intro _; exact Nat.le_refl _
      | succ n ih =>
        intro q
        have q1 : (sbn gs w n && (!w.testBit n || gs.testBit n)) = true := q
        have := ih (Bool.and_eq_true _ _ ▸ q1).1
        show popn n w + (if w.testBit n then 1 else 0) ≤ popn n gs + (if gs.testBit n then 1 else 0)
        cases a : w.testBit n <;> cases b : gs.testBit n <;> rw [a, b] at q1
        · exact this
        · show popn n w + 0 ≤ popn n gs + 1; omega
        · rw [Bool.not_true, Bool.or_false, Bool.and_false] at q1; cases q1
        · show popn n w + 1 ≤ popn n gs + 1; omega
    rw [pw_D n]
    cases s : sbn gs w n with
    | false => rw [if_neg (by decide), Nat.zero_mul]; rfl
    | true =>
      have le := le s
      rw [wD]
      cases a : w.testBit n <;> cases b : gs.testBit n
      · show (10 - x) ^ popn n w * x ^ (popn n gs - popn n w) * 1 = (10 - x) ^ (popn n w + 0) * x ^ (popn n gs + 0 - (popn n w + 0))
        rw [Nat.mul_one]; rfl
      · show (10 - x) ^ popn n w * x ^ (popn n gs - popn n w) * x = (10 - x) ^ (popn n w + 0) * x ^ (popn n gs + 1 - (popn n w + 0))
        rw [show popn n gs + 1 - (popn n w + 0) = popn n gs - popn n w + 1 by omega, Nat.pow_succ, Nat.mul_assoc]; rfl
      · show (10 - x) ^ popn n w * x ^ (popn n gs - popn n w) * 0 = 0; rfl
      · show (10 - x) ^ popn n w * x ^ (popn n gs - popn n w) * (10 - x) = (10 - x) ^ (popn n w + 1) * x ^ (popn n gs + 1 - (popn n w + 1))
        rw [show popn n gs + 1 - (popn n w + 1) = popn n gs - popn n w by omega, Nat.pow_succ, Nat.mul_right_comm]
theorem pE_D1 {x gs : Nat} (hx : x ≤ 10) : ∀ n, pE (wD x gs) n (fun _ => 1) = 10 ^ popn n gs
  | 0 => rfl
  | n + 1 => by
    show wD x gs n false * pE (wD x gs) n (fun _ => 1) + wD x gs n true * pE (wD x gs) n (fun _ => 1) = 10 ^ (popn n gs + if gs.testBit n then 1 else 0)
    rw [pE_D1 hx n, wD, wD]
    cases gs.testBit n
    · show 1 * _ + 0 * _ = _; rw [Nat.zero_mul, Nat.one_mul]; rfl
    · show x * _ + (10 - x) * _ = _
      rw [← Nat.add_mul, show x + (10 - x) = 10 by omega, Nat.mul_comm]; exact (Nat.pow_succ ..).symm
theorem pE_Dcut {x gs k : Nat} (hg : gs < 2 ^ k) (P : Nat → Nat) : ∀ m, pE (wD x gs) (k + m) P = pE (wD x gs) k P
  | 0 => rfl
  | m + 1 => by
    show wD x gs (k + m) false * pE (wD x gs) (k + m) P + wD x gs (k + m) true * pE (wD x gs) (k + m) (fun s => P (s + 2 ^ (k + m))) = _
    have : gs.testBit (k + m) = false := Nat.testBit_lt_two_pow (Nat.lt_of_lt_of_le hg (Nat.pow_le_pow_right (by decide) (by omega)))
    rw [wD, wD, this, pE_Dcut hg P m]
    show 1 * _ + 0 * _ = _
    rw [Nat.zero_mul, Nat.one_mul]; rfl
theorem popn_cut {gs k : Nat} (hg : gs < 2 ^ k) : ∀ m, popn (k + m) gs = popn k gs
  | 0 => rfl
  | m + 1 => by
    show popn (k + m) gs + (if gs.testBit (k + m) then 1 else 0) = _
    rw [popn_cut hg m, Nat.testBit_lt_two_pow (Nat.lt_of_lt_of_le hg (Nat.pow_le_pow_right (by decide) (by omega)))]; rfl
theorem sbn_6 {gs w : Nat} (hg : gs < 64) (hw : w < 64) : sbn gs w 6 = decide (nI w &&& (nI gs ^^^ kM1) = 0) := by
  have : ∀ gs, gs < 64 → ∀ w, w < 64 → sbn gs w 6 = decide (nI w &&& (nI gs ^^^ kM1) = 0) := by decide +kernel
  exact this gs hg w hw
theorem sbn_pop {gs w : Nat} (hg : gs < 64) (hw : w < 64) (h : sbn gs w 6 = true) : pop w ≤ pop gs ∧ pop gs ≤ 6 := by
  have : ∀ gs, gs < 64 → ∀ w, w < 64 → sbn gs w 6 = true → pop w ≤ pop gs ∧ pop gs ≤ 6 := by decide +kernel
  exact this gs hg w hw h
def feP (T : Tn) (s : Nat) : Bool := anyU (pcf T s) (T 1)
def feF (T : Tn) (x gs w : Nat) : Nat := if sbn gs w 6 && feP T w then (10 - x) ^ pop w * x ^ (pop gs - pop w) else 0
def feA (T : Tn) (x gs : Nat) : Nat := smU (feF T x gs) 64
theorem feA_pE (T : Tn) (x gs : Nat) : feA T x gs = pE (wD x gs) 6 (fun s => if feP T s then 1 else 0) := by
  rw [← smU_pE]
  refine smU_cg _ (fun w _ => ?_)
  rw [pw_D]
  show (if (sbn gs w 6 && feP T w) = true then (10 - x) ^ pop w * x ^ (pop gs - pop w) else 0) = (if sbn gs w 6 = true then (10 - x) ^ pop w * x ^ (pop gs - pop w) else 0) * (if feP T w = true then 1 else 0)
  cases sbn gs w 6 <;> cases feP T w
  · rfl
  · show 0 = 0 * 1; rfl
  · show 0 = _ * 0; rfl
  · show _ = _ * 1; rw [Nat.mul_one]; rfl
theorem feF_le {T : Tn} {x gs w : Nat} (hx : x ≤ 10) (hg : gs < 64) (hw : w < 64) : feF T x gs w ≤ 10 ^ 6 := by
  unfold feF
  split
  · next q =>
    obtain ⟨a, b⟩ := sbn_pop hg hw (Bool.and_eq_true _ _ ▸ q).1
    refine Nat.le_trans (Nat.mul_le_mul (Nat.pow_le_pow_left (show 10 - x ≤ 10 by omega) _) (Nat.pow_le_pow_left hx _)) ?_
    rw [← Nat.pow_add]
    exact Nat.pow_le_pow_right (by decide) (by omega)
  · exact Nat.zero_le _
def feQ (T : Tn) (x c w : Nat) : Nat := (if w = 0 then feA T x (gu T 0 (T 1) c) else 10 ^ pop (gu T 0 (T 1) c)) / Nat.gcd (feA T x (gu T 0 (T 1) c)) (10 ^ pop (gu T 0 (T 1) c))
def fFever (T : Tn) (c x w : Int32) : Int64 := if inN c (T 0) && btw x 0 10 && btw w 0 1 then lN (feQ T x.toNatClampNeg c.toNatClampNeg w.toNatClampNeg) else kBADL
