/-! the rota with the fewest changes: the ways by their numbers, the first figure is the first grandmother's -/
def pd (ch q g j : Nat) : Nat := q / ch ^ (g - 1 - j) % ch
def pre (T : Tn) (q g : Nat) : Tn := fun j => if 32 ≤ j ∧ j < 32 + g then pd (T 0) q g (j - 32) else T j
theorem pre_out {T : Tn} {q g j : Nat} (hj : j < 32 ∨ 32 + g ≤ j) : pre T q g j = T j := if_neg (by omega)
theorem pre_in {T : Tn} {q g j : Nat} (hj : j < g) : pre T q g (32 + j) = pd (T 0) q g j := by
  show (if 32 ≤ 32 + j ∧ 32 + j < 32 + g then _ else _) = _
  rw [if_pos (by omega), show 32 + j - 32 = j by omega]
theorem pre_0 (T : Tn) (q : Nat) : pre T q 0 = T := funext fun j => if_neg (by omega)
theorem up_up (T : Tn) (k a b : Nat) : up (up T k a) k b = up T k b := funext fun j => by
  by_cases e : j = k
  · subst e; rw [up_same, up_same]
  · rw [up_ne e, up_ne e, up_ne e]
theorem up_self (T : Tn) (k : Nat) : up T k (T k) = T := funext fun j => by
  by_cases e : j = k
  · subst e; rw [up_same]
  · rw [up_ne e]
theorem pd_lt {ch q g j : Nat} (h : 0 < ch) : pd ch q g j < ch := Nat.mod_lt _ h
theorem mad {ch q c : Nat} (hc : c < ch) : (q * ch + c) / ch = q ∧ (q * ch + c) % ch = c := by
  have h0 : 0 < ch := by omega
  refine ⟨?_, ?_⟩
  · rw [Nat.add_comm, Nat.add_mul_div_right _ _ h0, Nat.div_eq_of_lt hc, Nat.zero_add]
  · rw [Nat.add_comm, Nat.add_mul_mod_self_right, Nat.mod_eq_of_lt hc]
theorem pd_last {ch q g c : Nat} (hc : c < ch) : pd ch (q * ch + c) (g + 1) g = c := by
  unfold pd
  rw [show g + 1 - 1 - g = 0 by omega, Nat.pow_zero, Nat.div_one]; exact (mad hc).2
theorem pd_old {ch q g c j : Nat} (hc : c < ch) (hj : j < g) : pd ch (q * ch + c) (g + 1) j = pd ch q g j := by
  unfold pd
  rw [show g + 1 - 1 - j = (g - 1 - j) + 1 by omega, Nat.pow_succ, Nat.mul_comm (ch ^ _) ch, ← Nat.div_div_eq_div_mul, (mad hc).1]
theorem pre_up {T : Tn} {q g c : Nat} (hc : c < T 0) : up (pre T q g) (32 + g) c = pre T (q * T 0 + c) (g + 1) := funext fun j => by
  by_cases e : j = 32 + g
  · subst e; rw [up_same, pre_in (by omega), pd_last hc]
  · rw [up_ne e]
    by_cases z : 32 ≤ j ∧ j < 32 + g
    · rw [show j = 32 + (j - 32) by omega, pre_in (by omega), pre_in (by omega), pd_old hc (by omega)]
    · rw [pre_out (by omega), pre_out (by omega)]
theorem pre_back (T : Tn) (q g : Nat) : up (pre T q g) (32 + g) (T (32 + g)) = pre T q g := by
  have := up_self (pre T q g) (32 + g)
  rw [pre_out (by omega)] at this
  exact this
theorem okt_pre {T : Tn} (hO : OKT T) (h0 : 0 < T 0) (q : Nat) {g : Nat} (hg : g ≤ T 1) : OKT (pre T q g) := by
  obtain ⟨o0, o1, o2, o3, o4, o5, o6, o7, o8⟩ := id hO
  have e : ∀ j, j < 32 ∨ 38 ≤ j → pre T q g j = T j := fun j hj => pre_out (by omega)
  unfold OKT
  rw [e 0 (by omega), e 1 (by omega), e 2 (by omega), e 3 (by omega), e 4 (by omega)]
  refine ⟨o0, o1, o2, o3, o4, o5, fun c hc => ?_, fun j hj => ?_, fun c c1 c2 => ?_⟩
  · rw [e _ (by omega), e _ (by omega), e _ (by omega)]; exact o6 c hc
  · obtain ⟨a, b, c, p⟩ := o7 j hj
    rw [e (20 + j) (by omega), e (26 + j) (by omega), e (38 + j) (by omega), e (44 + j) (by omega), e (50 + j) (by omega)]
    refine ⟨a, b, ?_, p⟩
    by_cases z : j < g
    · rw [pre_in z]; exact pd_lt h0
    · rw [pre_out (by omega)]; exact c
  · rw [e _ (by omega), e _ (by omega)]; exact o8 c c1 c2
/-- what a change costs; how many changes from g on -/
def cst (T : Tn) (i j : Nat) : Nat := if pd (T 0) i (T 1) j = T (32 + j) then 0 else 1
def chg (T : Tn) (g i : Nat) : Nat := smU (fun j => cst T i (g + j)) (T 1 - g)
theorem chg_end (T : Tn) (i : Nat) : chg T (T 1) i = 0 := by unfold chg; rw [Nat.sub_self]; rfl
theorem chg_step {T : Tn} {g i : Nat} (hg : g < T 1) : chg T g i = cst T i g + chg T (g + 1) i := by
  unfold chg
  rw [show T 1 - g = 1 + (T 1 - (g + 1)) by omega, smU_add]
  show (0 + cst T i (g + 0)) + _ = _
  rw [Nat.zero_add, Nat.add_zero]
  congr 1
  exact smU_cg _ (fun j _ => by rw [Nat.add_assoc])
theorem chg_le (T : Tn) (g i : Nat) : chg T g i ≤ T 1 - g := by
  have := smU_le (f := fun j => cst T i (g + j)) (b := 1) (T 1 - g) (fun j _ => by show cst T i (g + j) ≤ 1; unfold cst; split <;> omega)
  unfold chg; omega
theorem sbn_iff {a b : Nat} : ∀ n, sbn a b n = true ↔ ∀ j, j < n → b.testBit j = true → a.testBit j = true
  | 0 => ⟨fun _ j hj => absurd hj (by omega), fun _ => rfl⟩
  | n + 1 => by
    have ih := sbn_iff (a := a) (b := b) n
    show (sbn a b n && (!b.testBit n || a.testBit n)) = true ↔ _
    rw [Bool.and_eq_true, ih, Bool.or_eq_true, Bool.not_eq_true']
    refine ⟨fun ⟨p, q⟩ j hj e => ?_, fun p => ⟨fun j hj => p j (by omega), ?_⟩⟩
    · by_cases z : j = n
      · subst z
        rcases q with q | q
        · rw [e] at q; cases q
        · exact q
      · exact p j (by omega) e
    · cases q : b.testBit n with
      | false => exact Or.inl rfl
      | true => exact Or.inr (p n (by omega) q)
/-- of one grandmother, whom she is with in so many days -/
def vb (V : Tn) (g : Nat) : Nat → Nat
  | 0 => 0
  | n + 1 => vb V g n ||| (match wt V n g with
    | none => 0
    | some c => 2 ^ c)
theorem vb_none {V : Tn} {g n : Nat} (h : wt V n g = none) : vb V g (n + 1) = vb V g n ||| 0 := by rw [vb, h]
theorem vb_some {V : Tn} {g n c : Nat} (h : wt V n g = some c) : vb V g (n + 1) = vb V g n ||| 1 * 2 ^ c := by rw [vb, h, Nat.one_mul]
theorem vb_lt {V : Tn} {g : Nat} (hO : OKT V) (h0 : 0 < V 0) : ∀ n, vb V g n < 2 ^ 5
  | 0 => (by decide : 0 < 2 ^ 5)
  | n + 1 => by
    refine or_lt (vb_lt hO h0 n) ?_
    cases q : wt V n g with
    | none => exact (by decide : 0 < 2 ^ 5)
    | some c =>
      have h1 := wt_lt h0 q
      have h2 := hO.1
      exact Nat.pow_lt_pow_right (by decide) (by omega)
theorem tb_or {a b j : Nat} (h : a.testBit j = true ∨ b.testBit j = true) : (a ||| b).testBit j = true := by
  rw [Nat.testBit_or, Bool.or_eq_true]; exact h
theorem vb_bit {V : Tn} {g c : Nat} : ∀ n d, d < n → wt V d g = some c → (vb V g n).testBit c = true
  | 0, d, hd, _ => absurd hd (by omega)
  | n + 1, d, hd, q => by
    by_cases z : d = n
    · subst z
      refine tb_or (Or.inr ?_)
      rw [q]
      exact Nat.testBit_two_pow_self
    · exact tb_or (Or.inl (vb_bit n d (by omega) q))
theorem sv_ex {V : Tn} {n c : Nat} : ∀ k, (sv V n k).testBit c = true → ∃ g, g < k ∧ wt V n g = some c
  | 0, q => by
    rw [show sv V n 0 = 0 from rfl, Nat.zero_testBit] at q; cases q
  | k + 1, q => by
    rw [sv, Nat.testBit_or, Bool.or_eq_true] at q
    rcases q with q | q
    · obtain ⟨g, a, b⟩ := sv_ex k q; exact ⟨g, by omega, b⟩
    · refine ⟨k, by omega, ?_⟩
      cases hb : br V n k with
      | false => rw [hb, if_neg (by decide), Nat.zero_testBit] at q; cases q
      | true =>
        rw [hb, if_pos rfl, Nat.testBit_two_pow] at q
        have q := of_decide_eq_true q
        unfold br at hb
        unfold wt at hb ⊢
        split
        · next z => rw [if_pos z] at hb; cases hb
        · rw [q]
theorem svs_ex {V : Tn} {c : Nat} : ∀ n, (svs V n).testBit c = true → ∃ d g, d < n ∧ g < V 1 ∧ wt V d g = some c
  | 0, q => by
    rw [show svs V 0 = 0 from rfl, Nat.zero_testBit] at q; cases q
  | n + 1, q => by
    rw [svs, Nat.testBit_or, Bool.or_eq_true] at q
    rcases q with q | q
    · obtain ⟨d, g, a, b, e⟩ := svs_ex n q; exact ⟨d, g, by omega, b, e⟩
    · obtain ⟨g, a, b⟩ := sv_ex _ q; exact ⟨n, g, by omega, a, b⟩
/-- the days come again -/
theorem wt_per {V : Tn} {L n g : Nat} (hL : V (44 + g) ≤ L) (hn : L ≤ n) : wt V (n + V 0) g = wt V n g := by
  unfold wt hst
  rw [if_neg (by omega), if_neg (by omega), show V 4 + (n + V 0) = (V 4 + n) + V 0 by omega, Nat.mul_add, ← Nat.add_assoc, Nat.add_mul_mod_self_right]
theorem gu_cg {V : Tn} {a b c : Nat} : ∀ k, (∀ g, g < k → wt V a g = wt V b g) → gu V a k c = gu V b k c
  | 0, _ => rfl
  | k + 1, e => by rw [gu, gu, gu_cg k (fun g hg => e g (by omega)), e k (by omega)]
theorem br_cg {V : Tn} {a b g : Nat} (hg : g < V 1) (e : ∀ g, g < V 1 → wt V a g = wt V b g) : br V a g = br V b g := by
  unfold br
  rw [e g hg]
  cases wt V b g with
  | none => rfl
  | some c => show decide (gu V a (V 1) c &&& _ = 0) = _; rw [gu_cg _ e]
theorem sv_cg {V : Tn} {a b : Nat} (e : ∀ g, g < V 1 → wt V a g = wt V b g) : ∀ k, k ≤ V 1 → sv V a k = sv V b k
  | 0, _ => rfl
  | k + 1, hk => by
    rw [sv, sv, sv_cg e k (by omega), br_cg (by omega) e]
    cases hb : br V b k with
    | false => rfl
    | true =>
      have ek := e k (by omega)
      have : hst V a k = hst V b k := by
        cases w : wt V b k with
        | none => rw [br_none w] at hb; cases hb
        | some c =>
          rw [w] at ek
          unfold wt at w ek
          split at w
          · cases w
          split at ek
          · cases ek
          exact (Option.some.inj ek).trans (Option.some.inj w).symm
      rw [this]
theorem or_idem {a b : Nat} (h : ∀ j, b.testBit j = true → a.testBit j = true) : a ||| b = a := Nat.eq_of_testBit_eq (fun j => by
  rw [Nat.testBit_or]
  cases q : b.testBit j with
  | false => rw [Bool.or_false]
  | true => rw [h j q]; rfl)
theorem svs_has {V : Tn} {d j : Nat} : ∀ n, d < n → (sv V d (V 1)).testBit j = true → (svs V n).testBit j = true
  | 0, hd, _ => absurd hd (by omega)
  | n + 1, hd, q => by
    by_cases z : d = n
    · subst z; exact tb_or (Or.inr q)
    · exact tb_or (Or.inl (svs_has n (by omega) q))
theorem svs_per {V : Tn} {L : Nat} (hL : ∀ g, g < V 1 → V (44 + g) ≤ L) (h0 : 0 < V 0) : ∀ m, svs V (L + V 0 + m) = svs V (L + V 0)
  | 0 => rfl
  | m + 1 => by
    show svs V (L + V 0 + m) ||| sv V (L + V 0 + m) (V 1) = _
    have e : sv V (L + V 0 + m) (V 1) = sv V (L + m) (V 1) := sv_cg (fun g hg => by
      have := wt_per (n := L + m) (hL g hg) (by omega)
      rwa [show L + m + V 0 = L + V 0 + m by omega] at this) _ (Nat.le_refl _)
    rw [e, or_idem (fun j q => svs_has _ (by omega) q)]
    exact svs_per hL h0 m
theorem svs_min {V : Tn} {L n : Nat} (hL : ∀ g, g < V 1 → V (44 + g) ≤ L) (h0 : 0 < V 0) : svs V (min n (L + V 0)) = svs V n := by
  by_cases z : n ≤ L + V 0
  · rw [Nat.min_eq_left z]
  · rw [Nat.min_eq_right (by omega)]
    have := svs_per hL h0 (n - (L + V 0))
    rw [show L + V 0 + (n - (L + V 0)) = n by omega] at this
    exact this.symm
theorem mxU_le (f : Nat → Nat) : ∀ n i, i < n → f i ≤ mxU f n
  | 0, i, hi => absurd hi (by omega)
  | n + 1, i, hi => by
    show f i ≤ max (mxU f n) (f n)
    by_cases z : i = n
    · subst z; omega
    · have := mxU_le f n i (by omega); omega
theorem mxU_bd {f : Nat → Nat} {b : Nat} : ∀ n, (∀ i, i < n → f i ≤ b) → mxU f n ≤ b
  | 0, _ => Nat.zero_le _
  | n + 1, e => by
    have := mxU_bd n (fun i hi => e i (by omega))
    have := e n (by omega)
    show max (mxU f n) (f n) ≤ b; omega
/-- a way serves -/
def srv (T : Tn) (w n i : Nat) : Bool := sbn (svs (pre T i (T 1)) n) w 6
/-- the first in a stretch -/
def fnd (P : Nat → Bool) : Nat → Nat → Option Nat
  | _, 0 => none
  | lo, m + 1 => if P lo then some lo else fnd P (lo + 1) m
theorem fnd_is {P : Nat → Bool} {i : Nat} (hp : P i = true) : ∀ m lo, lo ≤ i → i < lo + m → (∀ j, lo ≤ j → j < i → P j = false) → fnd P lo m = some i
  | 0, lo, a, b, _ => absurd b (by omega)
  | m + 1, lo, a, b, e => by
    unfold fnd
    by_cases z : lo = i
    · subst z; rw [if_pos hp]
    · rw [e lo (by omega) (by omega), if_neg (by decide)]
      exact fnd_is hp m (lo + 1) (by omega) (by omega) (fun j j1 j2 => e j (by omega) j2)
theorem fnd_no {P : Nat → Bool} : ∀ m lo, (∀ j, lo ≤ j → j < lo + m → P j = false) → fnd P lo m = none
  | 0, lo, _ => rfl
  | m + 1, lo, e => by
    unfold fnd
    rw [e lo (by omega) (by omega), if_neg (by decide)]
    exact fnd_no m (lo + 1) (fun j j1 j2 => e j (by omega) (by omega))
def bst (T : Tn) (w n : Nat) : Nat → Nat → Option (Nat × Nat)
  | 0, _ => none
  | m + 1, c => match fnd (fun i => decide (chg T 0 i = c) && srv T w n i) 0 (T 0 ^ T 1) with
    | some i => some (c, i)
    | none => bst T w n m (c + 1)
/-- all ways one by one, the better kept -/
def bf (T : Tn) (w n : Nat) : Nat → Option (Nat × Nat)
  | 0 => none
  | i + 1 => match bf T w n i with
    | none => if srv T w n i then some (chg T 0 i, i) else none
    | some (c, b) => if chg T 0 i < c && srv T w n i then some (chg T 0 i, i) else some (c, b)
theorem bf_none {T : Tn} {w n : Nat} : ∀ N, bf T w n N = none → ∀ i, i < N → srv T w n i = false
  | 0, _, i, hi => absurd hi (by omega)
  | N + 1, e, i, hi => by
    unfold bf at e
    cases q : bf T w n N with
    | none =>
      rw [q] at e
      have e : (if srv T w n N then some (chg T 0 N, N) else none) = none := e
      by_cases z : i = N
      · subst z
        cases s : srv T w n i with
        | false => rfl
        | true => rw [s] at e; cases e
      · exact bf_none N q i (by omega)
    | some cb =>
      obtain ⟨c, b⟩ := cb
      rw [q] at e
      have e : (if chg T 0 N < c && srv T w n N then some (chg T 0 N, N) else some (c, b)) = none := e
      split at e <;> cases e
theorem bf_some {T : Tn} {w n : Nat} : ∀ N c b, bf T w n N = some (c, b) → b < N ∧ srv T w n b = true ∧ chg T 0 b = c ∧ (∀ j, j < N → srv T w n j = true → c ≤ chg T 0 j) ∧ ∀ j, j < b → srv T w n j = true → c < chg T 0 j
  | 0, c, b, e => by cases e
  | N + 1, c, b, e => by
    unfold bf at e
    cases q : bf T w n N with
    | none =>
      rw [q] at e
      have e : (if srv T w n N then some (chg T 0 N, N) else none) = some (c, b) := e
      have no := bf_none N q
      cases s : srv T w n N with
      | false => rw [s] at e; cases e
      | true =>
        rw [s] at e
        cases e
        refine ⟨by omega, s, rfl, fun j hj sj => ?_, fun j hj sj => ?_⟩
        · by_cases z : j = N
          · subst z; exact Nat.le_refl _
          · rw [no j (by omega)] at sj; cases sj
        · rw [no j (by omega)] at sj; cases sj
    | some cb =>
      obtain ⟨c', b'⟩ := cb
      obtain ⟨i1, i2, i3, i4, i5⟩ := bf_some N c' b' q
      rw [q] at e
      have e : (if chg T 0 N < c' && srv T w n N then some (chg T 0 N, N) else some (c', b')) = some (c, b) := e
      split at e
      · next z =>
        rw [Bool.and_eq_true] at z
        have z1 := of_decide_eq_true z.1
        cases e
        refine ⟨by omega, z.2, rfl, fun j hj sj => ?_, fun j hj sj => ?_⟩
        · by_cases y : j = N
          · subst y; exact Nat.le_refl _
          · have := i4 j (by omega) sj; omega
        · have := i4 j (by omega) sj; omega
      · next z =>
        cases e
        refine ⟨by omega, i2, i3, fun j hj sj => ?_, i5⟩
        by_cases y : j = N
        · subst y
          rw [sj, Bool.and_true] at z
          have := of_decide_eq_false (Bool.eq_false_iff.mpr z)
          omega
        · exact i4 j (by omega) sj
theorem bf_bst {T : Tn} {w n : Nat} : bf T w n (T 0 ^ T 1) = bst T w n (T 1 + 1) 0 := by
  have gen : ∀ m c0, (∀ j, j < T 0 ^ T 1 → srv T w n j = true → c0 ≤ chg T 0 j) → c0 + m = T 1 + 1 → bst T w n m c0 = bf T w n (T 0 ^ T 1) := by
    intro m
    induction m with
    | zero =>
      intro c0 h1 h2
      show none = _
      cases q : bf T w n (T 0 ^ T 1) with
      | none => rfl
      | some cb =>
        obtain ⟨c, b⟩ := cb
        obtain ⟨i1, i2, i3, i4, i5⟩ := bf_some _ c b q
        have := h1 b i1 i2
        have := chg_le T 0 b
        omega
    | succ m ih =>
      intro c0 h1 h2
      unfold bst
      cases q : bf T w n (T 0 ^ T 1) with
      | none =>
        have no := bf_none _ q
        rw [fnd_no _ _ (fun j _ hj => by rw [no j (by omega), Bool.and_false])]
        rw [← q]
        exact ih (c0 + 1) (fun j hj sj => by rw [no j hj] at sj; cases sj) (by omega)
      | some cb =>
        obtain ⟨c, b⟩ := cb
        obtain ⟨i1, i2, i3, i4, i5⟩ := bf_some _ c b q
        by_cases z : c = c0
        · subst z
          rw [fnd_is (i := b) (by rw [i3, i2, decide_eq_true rfl]; rfl) _ _ (by omega) (by omega) (fun j _ hj => by
            cases s : srv T w n j with
            | false => rw [Bool.and_false]
            | true => rw [decide_eq_false (by have := i5 j hj s; omega)]; rfl)]
        · have := h1 b i1 i2
          rw [fnd_no _ _ (fun j _ hj => by
            cases s : srv T w n j with
            | false => rw [Bool.and_false]
            | true => rw [decide_eq_false (by have := i4 j (by omega) s; omega)]; rfl)]
          rw [← q]
          exact ih (c0 + 1) (fun j hj sj => by have := i4 j hj sj; omega) (by omega)
  exact (gen (T 1 + 1) 0 (fun _ _ _ => Nat.zero_le _) (by omega)).symm
def rtV (o : Option (Nat × Nat)) (z : Int32) (f : Nat → Nat → Int32) : Int32 := match o with
  | none => z
  | some (m, i) => f m i
theorem rtV_none (z : Int32) (f : Nat → Nat → Int32) : rtV none z f = z := rfl
theorem rtV_some (z : Int32) (f : Nat → Nat → Int32) (m i : Nat) : rtV (some (m, i)) z f = f m i := rfl
theorem if_tt {a b : Int32} : (if (true && true && true) = true then a else b) = a := rfl
theorem if_f1 {a b : Int32} {x y : Bool} : (if (false && x && y) = true then a else b) = b := rfl
theorem if_f2 {a b : Int32} {y : Bool} : (if (true && false && y) = true then a else b) = b := rfl
theorem if_f3 {a b : Int32} : (if (true && true && false) = true then a else b) = b := rfl
def fRota (T : Tn) (c n k : Int32) : Int32 := if T 1 = 0 then kSTATE else if btw c 0 (1 * 2 ^ T 0 - 1) && btw n 1 14 && (inN k (T 1) || decide (k = kM1)) then rtV (bst T c.toNatClampNeg n.toNatClampNeg (T 1 + 1) 0) kNONE (fun m i => if k = kM1 then nI m else nI (pd (T 0) i (T 1) k.toNatClampNeg)) else kBAD
