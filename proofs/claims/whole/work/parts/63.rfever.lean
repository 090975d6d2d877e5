/-- the town in which these have fallen, of the first k -/
def feT (T : Tn) (s k : Nat) : Tn := fun j => if 44 ≤ j ∧ j < 44 + k then (if s.testBit (j - 44) then 1 else T j) else T j
theorem feT_0 (T : Tn) (s : Nat) : feT T s 0 = T := funext fun j => if_neg (by omega)
theorem feT_out {T : Tn} {s k j : Nat} (hk : k ≤ 6) (hj : j < 44 ∨ 50 ≤ j) : feT T s k j = T j := if_neg (by omega)
theorem feT_succ (T : Tn) (s k : Nat) : feT T s (k + 1) = up (feT T s k) (44 + k) (if s.testBit k then 1 else T (44 + k)) := funext fun j => by
  by_cases e : j = 44 + k
  · subst e
    rw [up_same]
    show (if 44 ≤ 44 + k ∧ 44 + k < 44 + (k + 1) then _ else _) = _
    rw [if_pos (by omega), show 44 + k - 44 = k by omega]
  · rw [up_ne e]
    by_cases q : 44 ≤ j ∧ j < 44 + k
    · show (if 44 ≤ j ∧ j < 44 + (k + 1) then _ else _) = if 44 ≤ j ∧ j < 44 + k then _ else _
      rw [if_pos q, if_pos (by omega)]
    · show (if 44 ≤ j ∧ j < 44 + (k + 1) then _ else _) = if 44 ≤ j ∧ j < 44 + k then _ else _
      rw [if_neg q, if_neg (by omega)]
theorem feT_okt {T : Tn} {s : Nat} (hO : OKT T) : ∀ k, k ≤ T 1 → OKT (feT T s k)
  | 0, _ => by rw [feT_0]; exact hO
  | k + 1, hk => by
    rw [feT_succ]
    have o1 := hO.2.1
    have := (hO.2.2.2.2.2.2.2.1 k (by omega)).2.2.2.2.1
    exact okt_ill (feT_okt hO k (by omega)) (by rw [feT_out (by omega) (by omega)]; omega) (by split <;> omega)
theorem feT_sick {T : Tn} {s g n : Nat} (hg : g < n) : feT T s n (44 + g) = if s.testBit g then 1 else T (44 + g) := by
  show (if 44 ≤ 44 + g ∧ 44 + g < 44 + n then _ else _) = _
  rw [if_pos (by omega), show 44 + g - 44 = g by omega]
theorem feT_wt {T : Tn} {s g : Nat} (h1 : T 1 ≤ 6) (hg : g < T 1) : wt (feT T s (T 1)) 0 g = if s.testBit g then none else wt T 0 g := by
  unfold wt hst
  rw [feT_sick hg, feT_out h1 (by omega), feT_out h1 (by omega), feT_out h1 (by omega), feT_out h1 (by omega)]
  cases s.testBit g
  · rfl
  · rfl
theorem feT_gu {T : Tn} {s c : Nat} (h1 : T 1 ≤ 6) : ∀ k, k ≤ T 1 → gu (feT T s (T 1)) 0 k c = sty (gu T 0 (T 1) c) k s
  | 0, _ => rfl
  | k + 1, hk => by
    have l := gu_lt (feT T s (T 1)) 0 c k
    show gu (feT T s (T 1)) 0 k c ||| (if wt (feT T s (T 1)) 0 k = some c then 2 ^ k else 0) = sty (gu T 0 (T 1) c) k s + (if (gu T 0 (T 1) c).testBit k && !s.testBit k then 2 ^ k else 0)
    rw [feT_wt h1 (by omega), gu_bit, decide_eq_true (show k < T 1 by omega), Bool.true_and, ← feT_gu h1 k (by omega)]
    have p : gu (feT T s (T 1)) 0 k c ||| 2 ^ k = gu (feT T s (T 1)) 0 k c + 2 ^ k := by
      have := Nat.two_pow_add_eq_or_of_lt l 1
      rw [Nat.mul_one] at this
      rw [Nat.or_comm, ← this, Nat.add_comm]
    cases s.testBit k
    · show _ ||| (if wt T 0 k = some c then 2 ^ k else 0) = _
      by_cases q : wt T 0 k = some c
      · rw [if_pos q, decide_eq_true q, p]; rfl
      · rw [if_neg q, decide_eq_false q, Nat.or_zero]; rfl
    · rw [Bool.not_true, Bool.and_false, if_pos rfl, if_neg (by simp), Nat.or_zero]; rfl
def vsd (V : Tn) (c g : Nat) : Bool := decide (wt V 0 g = some c) && !lz V g (V 1)
theorem anyU_cg {f g : Nat → Bool} : ∀ n, (∀ i, i < n → f i = g i) → anyU f n = anyU g n
  | 0, _ => rfl
  | n + 1, e => by show (anyU f n || f n) = (anyU g n || g n); rw [anyU_cg n (fun i hi => e i (by omega)), e n (by omega)]
theorem vsd_feP {T : Tn} {s c : Nat} (h1 : T 1 ≤ 6) : anyU (vsd (feT T s (T 1)) c) (T 1) = feP T (sty (gu T 0 (T 1) c) (T 1) s) := by
  refine anyU_cg _ (fun g hg => ?_)
  have e1 : feT T s (T 1) 1 = T 1 := feT_out h1 (by omega)
  rw [vsd, lz_br, pcf, ← feT_gu h1 (T 1) (Nat.le_refl _), gu_bit, decide_eq_true hg, Bool.true_and]
  by_cases q : wt (feT T s (T 1)) 0 g = some c
  · rw [decide_eq_true q, Bool.true_and, Bool.true_and, q]
    unfold br
    rw [q, e1, feT_out (j := 50 + g) h1 (by omega)]
    simp
  · rw [decide_eq_false q]; rfl
def feV (T : Tn) (x gs s : Nat) : Nat := pw (wR T x) (T 1) s * (if feP T (sty gs (T 1) s) then 1 else 0)
theorem pw_le {T : Tn} {x s : Nat} (hx : x ≤ 10) : ∀ n, pw (wR T x) n s ≤ 10 ^ n
  | 0 => Nat.le_refl _
  | n + 1 => by
    show pw (wR T x) n s * wR T x n (s.testBit n) ≤ 10 ^ (n + 1)
    rw [Nat.pow_succ]
    refine Nat.mul_le_mul (pw_le hx n) ?_
    unfold wR
    split <;> split <;> omega
theorem pw_le6 {T : Tn} {x s n : Nat} (hx : x ≤ 10) (hn : n ≤ 6) : pw (wR T x) n s ≤ 10 ^ 6 := Nat.le_trans (pw_le hx n) (Nat.pow_le_pow_right (by decide) hn)
theorem feV_le {T : Tn} {x gs s : Nat} (hx : x ≤ 10) (h1 : T 1 ≤ 6) : feV T x gs s ≤ 10 ^ 6 := by
  unfold feV
  have := pw_le6 (T := T) (s := s) hx h1
  split <;> omega
theorem fe_sums {T : Tn} {x c : Nat} (hx : x ≤ 10) (h1 : T 1 ≤ 6) : ∃ k, smU (feV T x (gu T 0 (T 1) c)) (2 ^ T 1) = 10 ^ k * feA T x (gu T 0 (T 1) c) ∧ smU (pw (wR T x) (T 1)) (2 ^ T 1) = 10 ^ k * 10 ^ pop (gu T 0 (T 1) c) := by
  have hw : ∀ g, g < T 1 → (gu T 0 (T 1) c).testBit g = true → T (44 + g) = 0 := fun g hg q => by
    rw [gu_bit, decide_eq_true hg, Bool.true_and] at q
    have q := of_decide_eq_true q
    unfold wt at q
    split at q
    · cases q
    · omega
  have l := gu_lt T 0 c (T 1)
  refine ⟨kkn T (gu T 0 (T 1) c) (T 1), ?_, ?_⟩
  · have a := smU_pE (wR T x) (T 1) (fun s => if feP T (sty (gu T 0 (T 1) c) (T 1) s) then 1 else 0)
    have b := pE_RD hx (T 1) (fun s => if feP T s then 1 else 0) hw
    have e := pE_Dcut (x := x) l (fun s => if feP T s then 1 else 0) (6 - T 1)
    rw [show T 1 + (6 - T 1) = 6 by omega] at e
    rw [feA_pE, e, ← b, ← a]; rfl
  · have a := smU_pE (wR T x) (T 1) (fun _ => 1)
    have b := pE_RD hx (T 1) (fun _ => 1) hw
    have e := popn_cut l (6 - T 1)
    rw [show T 1 + (6 - T 1) = 6 by omega] at e
    have e : pop (gu T 0 (T 1) c) = popn (T 1) (gu T 0 (T 1) c) := e
    rw [e, ← pE_D1 hx, ← b, ← a]
    exact smU_cg _ (fun i _ => (Nat.mul_one _).symm)
theorem feQ_of {T : Tn} {x c w A B k : Nat} (hA : A = 10 ^ k * feA T x (gu T 0 (T 1) c)) (hB : B = 10 ^ k * 10 ^ pop (gu T 0 (T 1) c)) : (if w = 0 then A else B) / Nat.gcd A B = feQ T x c w := by
  have p : 0 < 10 ^ k := Nat.pow_pos (by decide)
  rw [feQ, hA, hB, Nat.gcd_mul_left]
  split
  · rw [Nat.mul_div_mul_left _ _ p]
  · rw [Nat.mul_div_mul_left _ _ p]
section RFEVER
variable {G : Gt} {d : Nat} {h : Hp} {T V : Tn}
theorem sp7_isVisited {c : Nat} {K : Int32 → Hp → Prop} (hR : RW h 1512 V) (hP : h 90 1 = nI (V 1)) (hO : OKT V) (hc : c < 5) (k : K (bI (anyU (vsd V c) (V 1))) h) : Call G (d + 2) mX7_isVisited [.ref 89, .int (nI c)] h (pI K) := by
  obtain ⟨o0, o1, o2, o3, o4, o5, o6, o7, o8⟩ := id hO
  refine Call.of (M := mX7_isVisited) (n := 2) (by decide +kernel) rfl ?_
  show WP _ _ _ _ 0 [some (.ref 89), some (.int (nI c)), none, none] [] _
  have loop : ∀ m i, i + m = V 1 → WP G (d + 2) mX7_isVisited (pI K) 4 [some (.ref 89), some (.int (nI c)), some (.int (bI (anyU (vsd V c) i))), some (.int (nI i))] [] h := by
    intro m
    induction m with
    | zero =>
      intro i him
      refine wp_iload_n (pc := 4) (i := 3) dX7_isVisited_4 rfl rfl ?_
      refine wp_aload_n (pc := 5) (i := 0) dX7_isVisited_5 rfl rfl ?_
      refine wp_gfr (pc := 6) fk_X7_7 dX7_isVisited_6 rfl rfl (by decide) ?_
      refine wp_iconst (pc := 9) (v := nI 1) dX7_isVisited_9 rfl ?_
      first | (with_reducible show WP _ _ _ _ _ _ (Value.int (nI _) :: _) _; refine wp_ialdN (pc := 10) dX7_isVisited_10 rfl (by omega) (by first | with_reducible assumption | with_reducible exact hs_same _ _ _ _ | rfl) ?_) | refine wp_iald (pc := 10) dX7_isVisited_10 rfl (by assumption) rfl ?_
      first | (with_reducible show WP _ _ _ _ _ _ (Value.int (nI _) :: Value.int (nI _) :: _) _; refine wp_icmp_geN (pc := 11) (tgt := 53) dX7_isVisited_11 (by decide) (by omega) (by omega) (fun c11 => ?_) (fun c11 => ?_)) | refine wp_icmp_ge (pc := 11) (tgt := 53) dX7_isVisited_11 (by decide) (fun c11 => ?_) (fun c11 => ?_)
      refine wp_iload_n (pc := 53) (i := 2) dX7_isVisited_53 rfl rfl ?_
      refine wp_zret (pc := 54) dX7_isVisited_54 rfl (by first | exact Or.inl rfl | exact Or.inr rfl | assumption | exact bI_01 _) ?_
      rotate_left
      rotate_left
      · rw [show V 1 = i by omega] at k; exact k
      · exact absurd him (by omega)
    | succ m ih =>
      intro i him
      have n0 : anyU (vsd V c) i = false → vsd V c i = false → bI (anyU (vsd V c) (i + 1)) = nI 0 := fun a b => by show bI (anyU (vsd V c) i || vsd V c i) = _; rw [a, b]; rfl
      have n1 : anyU (vsd V c) i = true ∨ vsd V c i = true → bI (anyU (vsd V c) (i + 1)) = nI 1 := fun a => by
        show bI (anyU (vsd V c) i || vsd V c i) = _
        rcases a with a | a
        · rw [a]; rfl
        · rw [a, Bool.or_true]; rfl
      have nx := ih (i + 1) (by omega)
      have p0 := (o5 (by omega)).1
      rcases ho : wt V 0 i with _ | e
      · have e : vsd V c i = false := by rw [vsd, ho]; rfl
        refine wp_iload_n (pc := 4) (i := 3) dX7_isVisited_4 rfl rfl ?_
        refine wp_aload_n (pc := 5) (i := 0) dX7_isVisited_5 rfl rfl ?_
        refine wp_gfr (pc := 6) fk_X7_7 dX7_isVisited_6 rfl rfl (by decide) ?_
        refine wp_iconst (pc := 9) (v := nI 1) dX7_isVisited_9 rfl ?_
        first | (with_reducible show WP _ _ _ _ _ _ (Value.int (nI _) :: _) _; refine wp_ialdN (pc := 10) dX7_isVisited_10 rfl (by omega) (by first | with_reducible assumption | with_reducible exact hs_same _ _ _ _ | rfl) ?_) | refine wp_iald (pc := 10) dX7_isVisited_10 rfl (by assumption) rfl ?_
        first | (with_reducible show WP _ _ _ _ _ _ (Value.int (nI _) :: Value.int (nI _) :: _) _; refine wp_icmp_geN (pc := 11) (tgt := 53) dX7_isVisited_11 (by decide) (by omega) (by omega) (fun c11 => ?_) (fun c11 => ?_)) | refine wp_icmp_ge (pc := 11) (tgt := 53) dX7_isVisited_11 (by decide) (fun c11 => ?_) (fun c11 => ?_)
        rotate_left
        refine wp_iload_n (pc := 14) (i := 2) dX7_isVisited_14 rfl rfl ?_
        first | (with_reducible show WP _ _ _ _ _ _ (Value.int (bI _) :: _) _; refine wp_if_neB (pc := 15) (tgt := 41) dX7_isVisited_15 (by decide) (fun c15 => ?_) (fun c15 => ?_)) | (with_reducible show WP _ _ _ _ _ _ (Value.int (nI _) :: _) _; refine wp_if_neN (pc := 15) (tgt := 41) dX7_isVisited_15 (by decide) (by omega) (fun c15 => ?_) (fun c15 => ?_)) | refine wp_if_ne (pc := 15) (tgt := 41) dX7_isVisited_15 (by decide) (fun c15 => ?_) (fun c15 => ?_)
        refine wp_iconst (pc := 41) (v := nI 1) dX7_isVisited_41 rfl ?_
        refine wp_goto (pc := 42) (tgt := 46) dX7_isVisited_42 (by decide) ?_
        refine wp_istore_n (pc := 46) (i := 2) dX7_isVisited_46 rfl rfl (by decide) rfl ?_
        dsimp only [List.set_cons_zero, List.set_cons_succ]
        first | refine wp_iincN (pc := 47) (i := 3) (n := 1) dX7_isVisited_47 rfl rfl (by decide) rfl ?_ | refine wp_iinc (pc := 47) (i := 3) dX7_isVisited_47 rfl rfl rfl (by decide) rfl ?_
        dsimp only [List.set_cons_zero, List.set_cons_succ]
        refine wp_goto (pc := 50) (tgt := 4) dX7_isVisited_50 (by decide) ?_
        rotate_left
        refine wp_aload_n (pc := 18) (i := 0) dX7_isVisited_18 rfl rfl ?_
        refine wp_sipush (pc := 19) (v := nI 1512) dX7_isVisited_19 rfl ?_
        refine wp_iload_n (pc := 22) (i := 3) dX7_isVisited_22 rfl rfl ?_
        refine wp_cV2i (pc := 23) lk_X7_145 dX7_isVisited_23 rfl rfl rfl (sp7_withOf hR hO (by decide) (by omega) ho ?_)
        refine wp_iload_n (pc := 26) (i := 1) dX7_isVisited_26 rfl rfl ?_
        first | (with_reducible show WP _ _ _ _ _ _ (Value.int (nI _) :: Value.int (nI _) :: _) _; refine wp_icmp_neN (pc := 27) (tgt := 45) dX7_isVisited_27 (by decide) (by omega) (by omega) (fun c27 => ?_) (fun c27 => ?_)) | refine wp_icmp_ne (pc := 27) (tgt := 45) dX7_isVisited_27 (by decide) (fun c27 => ?_) (fun c27 => ?_)
        refine wp_iconst (pc := 45) (v := nI 0) dX7_isVisited_45 rfl ?_
        refine wp_istore_n (pc := 46) (i := 2) dX7_isVisited_46 rfl rfl (by decide) rfl ?_
        dsimp only [List.set_cons_zero, List.set_cons_succ]
        first | refine wp_iincN (pc := 47) (i := 3) (n := 1) dX7_isVisited_47 rfl rfl (by decide) rfl ?_ | refine wp_iinc (pc := 47) (i := 3) dX7_isVisited_47 rfl rfl rfl (by decide) rfl ?_
        dsimp only [List.set_cons_zero, List.set_cons_succ]
        refine wp_goto (pc := 50) (tgt := 4) dX7_isVisited_50 (by decide) ?_
        rotate_left
        rotate_left
        · exact absurd him (by omega)
        · rw [n1 (Or.inl c15)] at nx; exact nx
        · rw [n0 c15 e] at nx; exact nx
        · exact absurd (Eq.symm c27) (nI_none (by omega))
      · have he := wt_lt p0 ho
        refine wp_iload_n (pc := 4) (i := 3) dX7_isVisited_4 rfl rfl ?_
        refine wp_aload_n (pc := 5) (i := 0) dX7_isVisited_5 rfl rfl ?_
        refine wp_gfr (pc := 6) fk_X7_7 dX7_isVisited_6 rfl rfl (by decide) ?_
        refine wp_iconst (pc := 9) (v := nI 1) dX7_isVisited_9 rfl ?_
        first | (with_reducible show WP _ _ _ _ _ _ (Value.int (nI _) :: _) _; refine wp_ialdN (pc := 10) dX7_isVisited_10 rfl (by omega) (by first | with_reducible assumption | with_reducible exact hs_same _ _ _ _ | rfl) ?_) | refine wp_iald (pc := 10) dX7_isVisited_10 rfl (by assumption) rfl ?_
        first | (with_reducible show WP _ _ _ _ _ _ (Value.int (nI _) :: Value.int (nI _) :: _) _; refine wp_icmp_geN (pc := 11) (tgt := 53) dX7_isVisited_11 (by decide) (by omega) (by omega) (fun c11 => ?_) (fun c11 => ?_)) | refine wp_icmp_ge (pc := 11) (tgt := 53) dX7_isVisited_11 (by decide) (fun c11 => ?_) (fun c11 => ?_)
        rotate_left
        refine wp_iload_n (pc := 14) (i := 2) dX7_isVisited_14 rfl rfl ?_
        first | (with_reducible show WP _ _ _ _ _ _ (Value.int (bI _) :: _) _; refine wp_if_neB (pc := 15) (tgt := 41) dX7_isVisited_15 (by decide) (fun c15 => ?_) (fun c15 => ?_)) | (with_reducible show WP _ _ _ _ _ _ (Value.int (nI _) :: _) _; refine wp_if_neN (pc := 15) (tgt := 41) dX7_isVisited_15 (by decide) (by omega) (fun c15 => ?_) (fun c15 => ?_)) | refine wp_if_ne (pc := 15) (tgt := 41) dX7_isVisited_15 (by decide) (fun c15 => ?_) (fun c15 => ?_)
        refine wp_iconst (pc := 41) (v := nI 1) dX7_isVisited_41 rfl ?_
        refine wp_goto (pc := 42) (tgt := 46) dX7_isVisited_42 (by decide) ?_
        refine wp_istore_n (pc := 46) (i := 2) dX7_isVisited_46 rfl rfl (by decide) rfl ?_
        dsimp only [List.set_cons_zero, List.set_cons_succ]
        first | refine wp_iincN (pc := 47) (i := 3) (n := 1) dX7_isVisited_47 rfl rfl (by decide) rfl ?_ | refine wp_iinc (pc := 47) (i := 3) dX7_isVisited_47 rfl rfl rfl (by decide) rfl ?_
        dsimp only [List.set_cons_zero, List.set_cons_succ]
        refine wp_goto (pc := 50) (tgt := 4) dX7_isVisited_50 (by decide) ?_
        rotate_left
        refine wp_aload_n (pc := 18) (i := 0) dX7_isVisited_18 rfl rfl ?_
        refine wp_sipush (pc := 19) (v := nI 1512) dX7_isVisited_19 rfl ?_
        refine wp_iload_n (pc := 22) (i := 3) dX7_isVisited_22 rfl rfl ?_
        refine wp_cV2i (pc := 23) lk_X7_145 dX7_isVisited_23 rfl rfl rfl (sp7_withOf hR hO (by decide) (by omega) ho ?_)
        rotate_left
        · exact absurd him (by omega)
        · rw [n1 (Or.inl c15)] at nx; exact nx
        show WP _ _ _ _ 26 _ [.int (nI e)] _
        refine wp_iload_n (pc := 26) (i := 1) dX7_isVisited_26 rfl rfl ?_
        first | (with_reducible show WP _ _ _ _ _ _ (Value.int (nI _) :: Value.int (nI _) :: _) _; refine wp_icmp_neN (pc := 27) (tgt := 45) dX7_isVisited_27 (by decide) (by omega) (by omega) (fun c27 => ?_) (fun c27 => ?_)) | refine wp_icmp_ne (pc := 27) (tgt := 45) dX7_isVisited_27 (by decide) (fun c27 => ?_) (fun c27 => ?_)
        refine wp_iconst (pc := 45) (v := nI 0) dX7_isVisited_45 rfl ?_
        refine wp_istore_n (pc := 46) (i := 2) dX7_isVisited_46 rfl rfl (by decide) rfl ?_
        dsimp only [List.set_cons_zero, List.set_cons_succ]
        first | refine wp_iincN (pc := 47) (i := 3) (n := 1) dX7_isVisited_47 rfl rfl (by decide) rfl ?_ | refine wp_iinc (pc := 47) (i := 3) dX7_isVisited_47 rfl rfl rfl (by decide) rfl ?_
        dsimp only [List.set_cons_zero, List.set_cons_succ]
        refine wp_goto (pc := 50) (tgt := 4) dX7_isVisited_50 (by decide) ?_
        rotate_left
        refine wp_aload_n (pc := 30) (i := 0) dX7_isVisited_30 rfl rfl ?_
        refine wp_sipush (pc := 31) (v := nI 1512) dX7_isVisited_31 rfl ?_
        refine wp_iload_n (pc := 34) (i := 3) dX7_isVisited_34 rfl rfl ?_
        refine wp_cV2i (pc := 35) lk_X7_161 dX7_isVisited_35 rfl rfl rfl (sp7_isLost hR hO (by decide) (by omega) rfl ?_)
        first | (with_reducible show WP _ _ _ _ _ _ (Value.int (bI _) :: _) _; refine wp_if_neB (pc := 38) (tgt := 45) dX7_isVisited_38 (by decide) (fun c38 => ?_) (fun c38 => ?_)) | (with_reducible show WP _ _ _ _ _ _ (Value.int (nI _) :: _) _; refine wp_if_neN (pc := 38) (tgt := 45) dX7_isVisited_38 (by decide) (by omega) (fun c38 => ?_) (fun c38 => ?_)) | refine wp_if_ne (pc := 38) (tgt := 45) dX7_isVisited_38 (by decide) (fun c38 => ?_) (fun c38 => ?_)
        refine wp_iconst (pc := 45) (v := nI 0) dX7_isVisited_45 rfl ?_
        refine wp_istore_n (pc := 46) (i := 2) dX7_isVisited_46 rfl rfl (by decide) rfl ?_
        dsimp only [List.set_cons_zero, List.set_cons_succ]
        first | refine wp_iincN (pc := 47) (i := 3) (n := 1) dX7_isVisited_47 rfl rfl (by decide) rfl ?_ | refine wp_iinc (pc := 47) (i := 3) dX7_isVisited_47 rfl rfl rfl (by decide) rfl ?_
        dsimp only [List.set_cons_zero, List.set_cons_succ]
        refine wp_goto (pc := 50) (tgt := 4) dX7_isVisited_50 (by decide) ?_
        rotate_left
        refine wp_iconst (pc := 41) (v := nI 1) dX7_isVisited_41 rfl ?_
        refine wp_goto (pc := 42) (tgt := 46) dX7_isVisited_42 (by decide) ?_
        refine wp_istore_n (pc := 46) (i := 2) dX7_isVisited_46 rfl rfl (by decide) rfl ?_
        dsimp only [List.set_cons_zero, List.set_cons_succ]
        first | refine wp_iincN (pc := 47) (i := 3) (n := 1) dX7_isVisited_47 rfl rfl (by decide) rfl ?_ | refine wp_iinc (pc := 47) (i := 3) dX7_isVisited_47 rfl rfl rfl (by decide) rfl ?_
        dsimp only [List.set_cons_zero, List.set_cons_succ]
        refine wp_goto (pc := 50) (tgt := 4) dX7_isVisited_50 (by decide) ?_
        rotate_left
        · have e : vsd V c i = false := by rw [vsd, ho, decide_eq_false (fun q => c27 (Option.some.inj q))]; rfl
          rw [n0 c15 e] at nx; exact nx
        · have e : vsd V c i = false := by rw [vsd, c38, Bool.not_true, Bool.and_false]
          rw [n0 c15 e] at nx; exact nx
        · have e : vsd V c i = true := by rw [vsd, c38, ho, c27, decide_eq_true rfl]; rfl
          rw [n1 (Or.inr e)] at nx; exact nx
  refine wp_iconst (pc := 0) (v := nI 0) dX7_isVisited_0 rfl ?_
  refine wp_istore_n (pc := 1) (i := 2) dX7_isVisited_1 rfl rfl (by decide) rfl ?_
  dsimp only [List.set_cons_zero, List.set_cons_succ]
  refine wp_iconst (pc := 2) (v := nI 0) dX7_isVisited_2 rfl ?_
  refine wp_istore_n (pc := 3) (i := 3) dX7_isVisited_3 rfl rfl (by decide) rfl ?_
  dsimp only [List.set_cons_zero, List.set_cons_succ]
  rotate_left
  exact loop (V 1) 0 (by omega)
theorem sr_fever {c x w : Int32} {K : Int64 → Hp → Prop} (hR : RW h 0 T) (hO : OKT T) (k : ∀ h', SR h h' → K (fFever T c x w) h') : Call G (d + 3) mX7_fever [.ref 89, .int c, .int x, .int w] h (pJ K) := by
  obtain ⟨o0, o1, o2, o3, o4, o5, o6, o7, o8⟩ := id hO
  refine Call.of (M := mX7_fever) (n := 10) (by decide +kernel) rfl ?_
  show WP _ _ _ _ 0 [some (.ref 89), some (.int c), some (.int x), some (.int w), none, none, none, none, none, none, none, none, none, none] [] _
  refine wp_aload_n (pc := 0) (i := 0) dX7_fever_0 rfl rfl ?_
  refine wp_iload_n (pc := 1) (i := 1) dX7_fever_1 rfl rfl ?_
  refine wp_cV1i (pc := 2) lk_X7_184 dX7_fever_2 rfl rfl rfl (sp7_isChild hR hO ?_)
  first | (with_reducible show WP _ _ _ _ _ _ (Value.int (bI _) :: _) _; refine wp_if_eqB (pc := 5) (tgt := 30) dX7_fever_5 (by decide) (fun c5 => ?_) (fun c5 => ?_)) | (with_reducible show WP _ _ _ _ _ _ (Value.int (nI _) :: _) _; refine wp_if_eqN (pc := 5) (tgt := 30) dX7_fever_5 (by decide) (by omega) (fun c5 => ?_) (fun c5 => ?_)) | refine wp_if_eq (pc := 5) (tgt := 30) dX7_fever_5 (by decide) (fun c5 => ?_) (fun c5 => ?_)
  refine wp_ldc2 (pc := 30) kn_X7_236 dX7_fever_30 ?_
  refine wp_lret (pc := 33) dX7_fever_33 rfl ?_
  rotate_left
  refine wp_iload_n (pc := 8) (i := 2) dX7_fever_8 rfl rfl ?_
  first | (with_reducible show WP _ _ _ _ _ _ (Value.int (nI _) :: _) _; refine wp_i2lN (pc := 9) dX7_fever_9 (by omega) ?_) | refine wp_i2l (pc := 9) dX7_fever_9 rfl ?_
  refine wp_lconst (pc := 10) (v := lN 0) dX7_fever_10 rfl ?_
  refine wp_ldc2 (pc := 11) kn_X7_234 dX7_fever_11 ?_
  refine wp_cS3i (pc := 14) lk_X7_48 dX7_fever_14 rfl (sp7_btw (by decide) (by decide) ?_)
  first | (with_reducible show WP _ _ _ _ _ _ (Value.int (bI _) :: _) _; refine wp_if_eqB (pc := 17) (tgt := 30) dX7_fever_17 (by decide) (fun c17 => ?_) (fun c17 => ?_)) | (with_reducible show WP _ _ _ _ _ _ (Value.int (nI _) :: _) _; refine wp_if_eqN (pc := 17) (tgt := 30) dX7_fever_17 (by decide) (by omega) (fun c17 => ?_) (fun c17 => ?_)) | refine wp_if_eq (pc := 17) (tgt := 30) dX7_fever_17 (by decide) (fun c17 => ?_) (fun c17 => ?_)
  refine wp_ldc2 (pc := 30) kn_X7_236 dX7_fever_30 ?_
  refine wp_lret (pc := 33) dX7_fever_33 rfl ?_
  rotate_left
  refine wp_iload_n (pc := 20) (i := 3) dX7_fever_20 rfl rfl ?_
  first | (with_reducible show WP _ _ _ _ _ _ (Value.int (nI _) :: _) _; refine wp_i2lN (pc := 21) dX7_fever_21 (by omega) ?_) | refine wp_i2l (pc := 21) dX7_fever_21 rfl ?_
  refine wp_lconst (pc := 22) (v := lN 0) dX7_fever_22 rfl ?_
  refine wp_lconst (pc := 23) (v := lN 1) dX7_fever_23 rfl ?_
  refine wp_cS3i (pc := 24) lk_X7_48 dX7_fever_24 rfl (sp7_btw (by decide) (by decide) ?_)
  first | (with_reducible show WP _ _ _ _ _ _ (Value.int (bI _) :: _) _; refine wp_if_neB (pc := 27) (tgt := 34) dX7_fever_27 (by decide) (fun c27 => ?_) (fun c27 => ?_)) | (with_reducible show WP _ _ _ _ _ _ (Value.int (nI _) :: _) _; refine wp_if_neN (pc := 27) (tgt := 34) dX7_fever_27 (by decide) (by omega) (fun c27 => ?_) (fun c27 => ?_)) | refine wp_if_ne (pc := 27) (tgt := 34) dX7_fever_27 (by decide) (fun c27 => ?_) (fun c27 => ?_)
  rotate_left
  refine wp_ldc2 (pc := 30) kn_X7_236 dX7_fever_30 ?_
  refine wp_lret (pc := 33) dX7_fever_33 rfl ?_
  rotate_left
  · rw [fFever, c5] at k; exact k h (SR.rf h)
  · rw [fFever, c5, c17] at k; exact k h (SR.rf h)
  rotate_left
  · rw [fFever, c5, c17, c27] at k; exact k h (SR.rf h)
  rw [fFever, c5, c17, c27] at k
  obtain ⟨c, hc, rfl⟩ := inN_t (by omega) c5
  obtain ⟨x, -, hx, rfl⟩ := btw_t (by decide) c17
  obtain ⟨w, -, hw, rfl⟩ := btw_t (by decide) c27
  rw [nI_clamp (show c < 2 ^ 31 by omega), nI_clamp (show x < 2 ^ 31 by omega), nI_clamp (show w < 2 ^ 31 by omega)] at k
  obtain ⟨kk, sA, sB⟩ := fe_sums (T := T) (c := c) hx o1
  have hp : 2 ^ T 1 ≤ 64 := Nat.pow_le_pow_right (by decide) o1
  generalize hgs : gu T 0 (T 1) c = gs at *
  have bA : ∀ i, i ≤ 64 → smU (feV T x gs) i ≤ i * 10 ^ 6 := fun i hi => smU_le i (fun j hj => feV_le hx o1)
  have bB : ∀ i, i ≤ 64 → smU (pw (wR T x) (T 1)) i ≤ i * 10 ^ 6 := fun i hi => smU_le i (fun j hj => pw_le6 hx o1)
  have e91 : h 90 1 = nI (T 1) := hR 1 (by omega)
  have eucl : ∀ y x1 h1, SR h h1 → y < 2 ^ 60 → x1 < 2 ^ 60 → 0 < Nat.gcd x1 y → Nat.gcd x1 y = Nat.gcd (smU (feV T x gs) (2 ^ T 1)) (smU (pw (wR T x) (T 1)) (2 ^ T 1)) → ∀ L12 L13, WP G (d + 3) mX7_fever (pJ K) 212 [some (.ref 89), some (.int (nI c)), some (.int (nI x)), some (.int (nI w)), some (.long (lN (smU (feV T x gs) (2 ^ T 1)))), none, some (.long (lN (smU (pw (wR T x) (T 1)) (2 ^ T 1)))), none, some (.long (lN x1)), none, some (.long (lN y)), none, L12, L13] [] h1 := by
    intro y
    induction y using Nat.strongRecOn with
    | _ y ih =>
      intro x1 h1 hs1 hy hx1 hg0 hg L12 L13
      have a1 := bA _ hp
      have b1 := bB _ hp
      refine wp_lload (pc := 212) (i := 10) dX7_fever_212 rfl ?_
      refine wp_lconst (pc := 214) (v := lN 0) dX7_fever_214 rfl ?_
      refine wp_lcmp (pc := 215) dX7_fever_215 ?_
      rotate_left
      refine wp_if_eq (pc := 216) (tgt := 237) dX7_fever_216 (by decide) (fun c216 => ?_) (fun c216 => ?_)
      · have z := (cmp_eq (by omega) (by decide)).mp c216
        subst z
        rw [Nat.gcd_zero_right] at hg hg0
        have q := k h1 hs1
        have e := feQ_of (x := x) (w := w) (show smU (feV T x gs) (2 ^ T 1) = 10 ^ kk * feA T x (gu T 0 (T 1) c) by rw [hgs]; exact sA) (show smU (pw (wR T x) (T 1)) (2 ^ T 1) = 10 ^ kk * 10 ^ pop (gu T 0 (T 1) c) by rw [hgs]; exact sB)
        rw [← e, ← hg] at q
        refine wp_iload_n (pc := 237) (i := 3) dX7_fever_237 rfl rfl ?_
        first | (with_reducible show WP _ _ _ _ _ _ (Value.int (bI _) :: _) _; refine wp_if_neB (pc := 238) (tgt := 249) dX7_fever_238 (by decide) (fun c238 => ?_) (fun c238 => ?_)) | (with_reducible show WP _ _ _ _ _ _ (Value.int (nI _) :: _) _; refine wp_if_neN (pc := 238) (tgt := 249) dX7_fever_238 (by decide) (by omega) (fun c238 => ?_) (fun c238 => ?_)) | refine wp_if_ne (pc := 238) (tgt := 249) dX7_fever_238 (by decide) (fun c238 => ?_) (fun c238 => ?_)
        refine wp_lload (pc := 249) (i := 6) dX7_fever_249 rfl ?_
        refine wp_lload (pc := 251) (i := 8) dX7_fever_251 rfl ?_
        refine wp_ldivN (pc := 253) dX7_fever_253 (by omega) (by omega) (by omega) ?_
        refine wp_lret (pc := 254) dX7_fever_254 rfl ?_
        rotate_left
        refine wp_lload (pc := 241) (i := 4) dX7_fever_241 rfl ?_
        refine wp_lload (pc := 243) (i := 8) dX7_fever_243 rfl ?_
        refine wp_ldivN (pc := 245) dX7_fever_245 (by omega) (by omega) (by omega) ?_
        refine wp_goto (pc := 246) (tgt := 254) dX7_fever_246 (by decide) ?_
        refine wp_lret (pc := 254) dX7_fever_254 rfl ?_
        rotate_left
        · rw [if_neg c238] at q; exact q
        · rw [if_pos c238] at q; exact q
      · have z : ¬ y = 0 := fun q => c216 ((cmp_eq (by omega) (by decide)).mpr q)
        have m := Nat.mod_lt x1 (show 0 < y by omega)
        refine wp_lload (pc := 219) (i := 8) dX7_fever_219 rfl ?_
        refine wp_lload (pc := 221) (i := 10) dX7_fever_221 rfl ?_
        refine wp_lremN (pc := 223) dX7_fever_223 (by omega) (by omega) (by omega) ?_
        refine wp_lstore (pc := 224) (i := 12) dX7_fever_224 rfl (by decide) rfl ?_
        dsimp only [List.set_cons_zero, List.set_cons_succ]
        refine wp_lload (pc := 226) (i := 10) dX7_fever_226 rfl ?_
        refine wp_lstore (pc := 228) (i := 8) dX7_fever_228 rfl (by decide) rfl ?_
        dsimp only [List.set_cons_zero, List.set_cons_succ]
        refine wp_lload (pc := 230) (i := 12) dX7_fever_230 rfl ?_
        refine wp_lstore (pc := 232) (i := 10) dX7_fever_232 rfl (by decide) rfl ?_
        dsimp only [List.set_cons_zero, List.set_cons_succ]
        refine wp_goto (pc := 234) (tgt := 212) dX7_fever_234 (by decide) ?_
        rotate_left
        exact ih (x1 % y) m y h1 hs1 (by omega) hy (by rw [gcd_step]; exact hg0) ((gcd_step x1 y).trans hg) _ _
  have loop : ∀ m i h1, i + m = 2 ^ T 1 → FB h h1 1512 → ∀ L9 L11 L12, WP G (d + 3) mX7_fever (pJ K) 43 [some (.ref 89), some (.int (nI c)), some (.int (nI x)), some (.int (nI w)), some (.long (lN (smU (feV T x gs) i))), none, some (.long (lN (smU (pw (wR T x) (T 1)) i))), none, some (.int (nI i)), L9, none, L11, L12, none] [] h1 := by
    intro m
    induction m with
    | zero =>
      intro i h1 him hf1 L9 L11 L12
      have hi : i = 2 ^ T 1 := by omega
      subst hi
      have e1 : h1 90 1 = nI (T 1) := (hf1.2 1 (by omega)).trans e91
      have a1 := bA _ hp
      have b1 := bB _ hp
      have p0 : 0 < 10 ^ kk * 10 ^ pop gs := Nat.mul_pos (Nat.pow_pos (by decide)) (Nat.pow_pos (by decide))
      refine wp_iload (pc := 43) (i := 8) dX7_fever_43 rfl ?_
      refine wp_iconst (pc := 45) (v := nI 1) dX7_fever_45 rfl ?_
      refine wp_aload_n (pc := 46) (i := 0) dX7_fever_46 rfl rfl ?_
      refine wp_gfr (pc := 47) fk_X7_7 dX7_fever_47 rfl rfl (by decide) ?_
      refine wp_iconst (pc := 50) (v := nI 1) dX7_fever_50 rfl ?_
      first | (with_reducible show WP _ _ _ _ _ _ (Value.int (nI _) :: _) _; refine wp_ialdN (pc := 51) dX7_fever_51 rfl (by omega) (by first | with_reducible assumption | with_reducible exact hs_same _ _ _ _ | rfl) ?_) | refine wp_iald (pc := 51) dX7_fever_51 rfl (by assumption) rfl ?_
      first | (with_reducible show WP _ _ _ _ _ _ (Value.int (nI _) :: Value.int (nI _) :: _) _; refine wp_ishlN (pc := 52) dX7_fever_52 (by omega) ?_) | refine wp_ishl (pc := 52) dX7_fever_52 ?_
      first | (with_reducible show WP _ _ _ _ _ _ (Value.int (nI _) :: Value.int (nI _) :: _) _; refine wp_icmp_geN (pc := 53) (tgt := 204) dX7_fever_53 (by decide) (by omega) (by omega) (fun c53 => ?_) (fun c53 => ?_)) | refine wp_icmp_ge (pc := 53) (tgt := 204) dX7_fever_53 (by decide) (fun c53 => ?_) (fun c53 => ?_)
      refine wp_lload (pc := 204) (i := 4) dX7_fever_204 rfl ?_
      refine wp_lstore (pc := 206) (i := 8) dX7_fever_206 rfl (by decide) rfl ?_
      dsimp only [List.set_cons_zero, List.set_cons_succ]
      refine wp_lload (pc := 208) (i := 6) dX7_fever_208 rfl ?_
      refine wp_lstore (pc := 210) (i := 10) dX7_fever_210 rfl (by decide) rfl ?_
      dsimp only [List.set_cons_zero, List.set_cons_succ]
      rotate_left
      rotate_left
      · exact eucl _ _ h1 hf1.sr (by omega) (by omega) (Nat.gcd_pos_of_pos_right _ (by rw [sB]; exact p0)) rfl _ _
      · exact absurd him (by omega)
    | succ m ih =>
      intro i h1 him hf1 L9 L11 L12
      have e1 : h1 90 1 = nI (T 1) := (hf1.2 1 (by omega)).trans e91
      have hR1 : RW h1 0 T := hR.fb hf1 (by omega)
      have inner : ∀ m2 g h2, g + m2 = T 1 → FB h1 h2 1512 → RW h2 1512 (feT T i g) → ∀ L12, WP G (d + 3) mX7_fever (pJ K) 70 [some (.ref 89), some (.int (nI c)), some (.int (nI x)), some (.int (nI w)), some (.long (lN (smU (feV T x gs) i))), none, some (.long (lN (smU (pw (wR T x) (T 1)) i))), none, some (.int (nI i)), some (.long (lN (pw (wR T x) g i))), none, some (.int (nI g)), L12, none] [] h2 := by
        intro m2
        induction m2 with
        | zero =>
          intro g h2 hgm hf2 hR2 L12
          have hg : g = T 1 := by omega
          subst hg
          have e2 : h2 90 1 = nI (T 1) := (hf2.2 1 (by omega)).trans e1
          have v1 : feT T i (T 1) 1 = T 1 := feT_out o1 (by omega)
          have vf := vsd_feP (T := T) (s := i) (c := c) o1
          rw [hgs] at vf
          have nx := fun L9 => ih (i + 1) h2 (by omega) (hf1.tr hf2) L9
          rw [show smU (feV T x gs) (i + 1) = smU (feV T x gs) i + feV T x gs i from rfl, show smU (pw (wR T x) (T 1)) (i + 1) = smU (pw (wR T x) (T 1)) i + pw (wR T x) (T 1) i from rfl] at nx
          refine wp_iload (pc := 70) (i := 11) dX7_fever_70 rfl ?_
          refine wp_aload_n (pc := 72) (i := 0) dX7_fever_72 rfl rfl ?_
          refine wp_gfr (pc := 73) fk_X7_7 dX7_fever_73 rfl rfl (by decide) ?_
          refine wp_iconst (pc := 76) (v := nI 1) dX7_fever_76 rfl ?_
          first | (with_reducible show WP _ _ _ _ _ _ (Value.int (nI _) :: _) _; refine wp_ialdN (pc := 77) dX7_fever_77 rfl (by omega) (by first | with_reducible assumption | with_reducible exact hs_same _ _ _ _ | rfl) ?_) | refine wp_iald (pc := 77) dX7_fever_77 rfl (by assumption) rfl ?_
          first | (with_reducible show WP _ _ _ _ _ _ (Value.int (nI _) :: Value.int (nI _) :: _) _; refine wp_icmp_geN (pc := 78) (tgt := 172) dX7_fever_78 (by decide) (by omega) (by omega) (fun c78 => ?_) (fun c78 => ?_)) | refine wp_icmp_ge (pc := 78) (tgt := 172) dX7_fever_78 (by decide) (fun c78 => ?_) (fun c78 => ?_)
          refine wp_lload (pc := 172) (i := 4) dX7_fever_172 rfl ?_
          refine wp_aload_n (pc := 174) (i := 0) dX7_fever_174 rfl rfl ?_
          refine wp_iload_n (pc := 175) (i := 1) dX7_fever_175 rfl rfl ?_
          refine wp_cV1i (pc := 176) lk_X7_238 dX7_fever_176 rfl rfl rfl (sp7_isVisited hR2 (by rw [v1]; exact e2) (feT_okt hO _ (Nat.le_refl _)) (by omega) ?_)
          first | (with_reducible show WP _ _ _ _ _ _ (Value.int (bI _) :: _) _; refine wp_if_eqB (pc := 179) (tgt := 187) dX7_fever_179 (by decide) (fun c179 => ?_) (fun c179 => ?_)) | (with_reducible show WP _ _ _ _ _ _ (Value.int (nI _) :: _) _; refine wp_if_eqN (pc := 179) (tgt := 187) dX7_fever_179 (by decide) (by omega) (fun c179 => ?_) (fun c179 => ?_)) | refine wp_if_eq (pc := 179) (tgt := 187) dX7_fever_179 (by decide) (fun c179 => ?_) (fun c179 => ?_)
          refine wp_lconst (pc := 187) (v := lN 0) dX7_fever_187 rfl ?_
          refine wp_laddN (pc := 188) dX7_fever_188 ?_
          refine wp_lstore (pc := 189) (i := 4) dX7_fever_189 rfl (by decide) rfl ?_
          dsimp only [List.set_cons_zero, List.set_cons_succ]
          refine wp_lload (pc := 191) (i := 6) dX7_fever_191 rfl ?_
          refine wp_lload (pc := 193) (i := 9) dX7_fever_193 rfl ?_
          refine wp_laddN (pc := 195) dX7_fever_195 ?_
          refine wp_lstore (pc := 196) (i := 6) dX7_fever_196 rfl (by decide) rfl ?_
          dsimp only [List.set_cons_zero, List.set_cons_succ]
          first | refine wp_iincN (pc := 198) (i := 8) (n := 1) dX7_fever_198 rfl rfl (by decide) rfl ?_ | refine wp_iinc (pc := 198) (i := 8) dX7_fever_198 rfl rfl rfl (by decide) rfl ?_
          dsimp only [List.set_cons_zero, List.set_cons_succ]
          refine wp_goto (pc := 201) (tgt := 43) dX7_fever_201 (by decide) ?_
          rotate_left
          refine wp_lload (pc := 182) (i := 9) dX7_fever_182 rfl ?_
          refine wp_goto (pc := 184) (tgt := 188) dX7_fever_184 (by decide) ?_
          refine wp_laddN (pc := 188) dX7_fever_188 ?_
          refine wp_lstore (pc := 189) (i := 4) dX7_fever_189 rfl (by decide) rfl ?_
          dsimp only [List.set_cons_zero, List.set_cons_succ]
          refine wp_lload (pc := 191) (i := 6) dX7_fever_191 rfl ?_
          refine wp_lload (pc := 193) (i := 9) dX7_fever_193 rfl ?_
          refine wp_laddN (pc := 195) dX7_fever_195 ?_
          refine wp_lstore (pc := 196) (i := 6) dX7_fever_196 rfl (by decide) rfl ?_
          dsimp only [List.set_cons_zero, List.set_cons_succ]
          first | refine wp_iincN (pc := 198) (i := 8) (n := 1) dX7_fever_198 rfl rfl (by decide) rfl ?_ | refine wp_iinc (pc := 198) (i := 8) dX7_fever_198 rfl rfl rfl (by decide) rfl ?_
          dsimp only [List.set_cons_zero, List.set_cons_succ]
          refine wp_goto (pc := 201) (tgt := 43) dX7_fever_201 (by decide) ?_
          rotate_left
          rotate_left
          · rw [v1, vf] at c179
            have e : feV T x gs i = 0 := by rw [feV, c179]; rfl
            rw [e] at nx; exact nx _ _ _
          · rw [v1, vf] at c179
            have e : feV T x gs i = pw (wR T x) (T 1) i := by rw [feV, c179]; exact Nat.mul_one _
            rw [e] at nx; exact nx _ _ _
          · exact absurd hgm (by omega)
        | succ m2 ih2 =>
          intro g h2 hgm hf2 hR2 L12
          have e2 : h2 90 1 = nI (T 1) := (hf2.2 1 (by omega)).trans e1
          have es : h2 90 (44 + g) = nI (T (44 + g)) := (hf2.2 _ (by omega)).trans (by have := hR1 (44 + g) (by omega); rwa [Nat.zero_add] at this)
          have ob := (o7 g (by omega)).2.2.2.2.1
          have fin : ∀ u, u = wR T x g (i.testBit g) → WP G (d + 3) mX7_fever (pJ K) 133 [some (.ref 89), some (.int (nI c)), some (.int (nI x)), some (.int (nI w)), some (.long (lN (smU (feV T x gs) i))), none, some (.long (lN (smU (pw (wR T x) (T 1)) i))), none, some (.int (nI i)), some (.long (lN (pw (wR T x) g i))), none, some (.int (nI g)), some (.int (bI (i.testBit g))), none] [.long (lN u), .long (lN (pw (wR T x) g i))] h2 := by
            intro u hu
            have w1 := RWup (v := if i.testBit g then 1 else T (44 + g)) hR2 (show 44 + g < 56 by omega)
            rw [← feT_succ, ← Nat.add_assoc] at w1
            have nx := fun hf => ih2 (g + 1) (hs h2 90 (1512 + 44 + g) (nI (if i.testBit g then 1 else T (44 + g)))) (by omega) hf w1
            rw [show pw (wR T x) (g + 1) i = pw (wR T x) g i * wR T x g (i.testBit g) from rfl, ← hu] at nx
            have hf := hf2.hs (j := 1512 + 44 + g) (v := nI (if i.testBit g then 1 else T (44 + g))) (by omega) (by omega)
            have nx := nx hf
            refine wp_lmulN (pc := 133) dX7_fever_133 ?_
            refine wp_lstore (pc := 134) (i := 9) dX7_fever_134 rfl (by decide) rfl ?_
            dsimp only [List.set_cons_zero, List.set_cons_succ]
            refine wp_aload_n (pc := 136) (i := 0) dX7_fever_136 rfl rfl ?_
            refine wp_gfr (pc := 137) fk_X7_7 dX7_fever_137 rfl rfl (by decide) ?_
            refine wp_sipush (pc := 140) (v := nI 1556) dX7_fever_140 rfl ?_
            refine wp_iload (pc := 143) (i := 11) dX7_fever_143 rfl ?_
            first | (with_reducible show WP _ _ _ _ _ _ (Value.int (nI _) :: Value.int (nI _) :: _) _; refine wp_iaddN (pc := 145) dX7_fever_145 ?_) | refine wp_iadd (pc := 145) dX7_fever_145 ?_
            refine wp_iload (pc := 146) (i := 12) dX7_fever_146 rfl ?_
            first | (with_reducible show WP _ _ _ _ _ _ (Value.int (bI _) :: _) _; refine wp_if_eqB (pc := 148) (tgt := 155) dX7_fever_148 (by decide) (fun c148 => ?_) (fun c148 => ?_)) | (with_reducible show WP _ _ _ _ _ _ (Value.int (nI _) :: _) _; refine wp_if_eqN (pc := 148) (tgt := 155) dX7_fever_148 (by decide) (by omega) (fun c148 => ?_) (fun c148 => ?_)) | refine wp_if_eq (pc := 148) (tgt := 155) dX7_fever_148 (by decide) (fun c148 => ?_) (fun c148 => ?_)
            refine wp_aload_n (pc := 155) (i := 0) dX7_fever_155 rfl rfl ?_
            refine wp_gfr (pc := 156) fk_X7_7 dX7_fever_156 rfl rfl (by decide) ?_
            refine wp_bipush (pc := 159) (v := nI 44) dX7_fever_159 rfl ?_
            refine wp_iload (pc := 161) (i := 11) dX7_fever_161 rfl ?_
            first | (with_reducible show WP _ _ _ _ _ _ (Value.int (nI _) :: Value.int (nI _) :: _) _; refine wp_iaddN (pc := 163) dX7_fever_163 ?_) | refine wp_iadd (pc := 163) dX7_fever_163 ?_
            first | (with_reducible show WP _ _ _ _ _ _ (Value.int (nI _) :: _) _; refine wp_ialdN (pc := 164) dX7_fever_164 rfl (by omega) (by first | with_reducible assumption | with_reducible exact hs_same _ _ _ _ | rfl) ?_) | refine wp_iald (pc := 164) dX7_fever_164 rfl (by assumption) rfl ?_
            first | (with_reducible show WP _ _ _ _ _ _ (_ :: Value.int (nI _) :: _) _; refine wp_iastN (pc := 165) dX7_fever_165 rfl (by omega) ?_) | refine wp_iast (pc := 165) dX7_fever_165 rfl (by assumption) rfl ?_
            first | refine wp_iincN (pc := 166) (i := 11) (n := 1) dX7_fever_166 rfl rfl (by decide) rfl ?_ | refine wp_iinc (pc := 166) (i := 11) dX7_fever_166 rfl rfl rfl (by decide) rfl ?_
            dsimp only [List.set_cons_zero, List.set_cons_succ]
            refine wp_goto (pc := 169) (tgt := 70) dX7_fever_169 (by decide) ?_
            rotate_left
            refine wp_iconst (pc := 151) (v := nI 1) dX7_fever_151 rfl ?_
            refine wp_goto (pc := 152) (tgt := 165) dX7_fever_152 (by decide) ?_
            first | (with_reducible show WP _ _ _ _ _ _ (_ :: Value.int (nI _) :: _) _; refine wp_iastN (pc := 165) dX7_fever_165 rfl (by omega) ?_) | refine wp_iast (pc := 165) dX7_fever_165 rfl (by assumption) rfl ?_
            first | refine wp_iincN (pc := 166) (i := 11) (n := 1) dX7_fever_166 rfl rfl (by decide) rfl ?_ | refine wp_iinc (pc := 166) (i := 11) dX7_fever_166 rfl rfl rfl (by decide) rfl ?_
            dsimp only [List.set_cons_zero, List.set_cons_succ]
            refine wp_goto (pc := 169) (tgt := 70) dX7_fever_169 (by decide) ?_
            rotate_left
            · rw [c148] at nx
              exact nx _
            · rw [c148] at nx
              exact nx _
          refine wp_iload (pc := 70) (i := 11) dX7_fever_70 rfl ?_
          refine wp_aload_n (pc := 72) (i := 0) dX7_fever_72 rfl rfl ?_
          refine wp_gfr (pc := 73) fk_X7_7 dX7_fever_73 rfl rfl (by decide) ?_
          refine wp_iconst (pc := 76) (v := nI 1) dX7_fever_76 rfl ?_
          first | (with_reducible show WP _ _ _ _ _ _ (Value.int (nI _) :: _) _; refine wp_ialdN (pc := 77) dX7_fever_77 rfl (by omega) (by first | with_reducible assumption | with_reducible exact hs_same _ _ _ _ | rfl) ?_) | refine wp_iald (pc := 77) dX7_fever_77 rfl (by assumption) rfl ?_
          first | (with_reducible show WP _ _ _ _ _ _ (Value.int (nI _) :: Value.int (nI _) :: _) _; refine wp_icmp_geN (pc := 78) (tgt := 172) dX7_fever_78 (by decide) (by omega) (by omega) (fun c78 => ?_) (fun c78 => ?_)) | refine wp_icmp_ge (pc := 78) (tgt := 172) dX7_fever_78 (by decide) (fun c78 => ?_) (fun c78 => ?_)
          rotate_left
          refine wp_iload (pc := 81) (i := 8) dX7_fever_81 rfl ?_
          refine wp_iload (pc := 83) (i := 11) dX7_fever_83 rfl ?_
          refine wp_cS2i (pc := 85) lk_X7_148 dX7_fever_85 rfl (sp7_has (by omega) (by omega) ?_)
          refine wp_istore (pc := 88) (i := 12) dX7_fever_88 rfl (by decide) rfl ?_
          dsimp only [List.set_cons_zero, List.set_cons_succ]
          refine wp_lload (pc := 90) (i := 9) dX7_fever_90 rfl ?_
          refine wp_aload_n (pc := 92) (i := 0) dX7_fever_92 rfl rfl ?_
          refine wp_gfr (pc := 93) fk_X7_7 dX7_fever_93 rfl rfl (by decide) ?_
          refine wp_bipush (pc := 96) (v := nI 44) dX7_fever_96 rfl ?_
          refine wp_iload (pc := 98) (i := 11) dX7_fever_98 rfl ?_
          first | (with_reducible show WP _ _ _ _ _ _ (Value.int (nI _) :: Value.int (nI _) :: _) _; refine wp_iaddN (pc := 100) dX7_fever_100 ?_) | refine wp_iadd (pc := 100) dX7_fever_100 ?_
          first | (with_reducible show WP _ _ _ _ _ _ (Value.int (nI _) :: _) _; refine wp_ialdN (pc := 101) dX7_fever_101 rfl (by omega) (by first | with_reducible assumption | with_reducible exact hs_same _ _ _ _ | rfl) ?_) | refine wp_iald (pc := 101) dX7_fever_101 rfl (by assumption) rfl ?_
          first | (with_reducible show WP _ _ _ _ _ _ (Value.int (nI _) :: _) _; refine wp_if_leN (pc := 102) (tgt := 118) dX7_fever_102 (by decide) (by omega) (fun c102 => ?_) (fun c102 => ?_)) | refine wp_if_le (pc := 102) (tgt := 118) dX7_fever_102 (by decide) (fun c102 => ?_) (fun c102 => ?_)
          refine wp_iload (pc := 118) (i := 12) dX7_fever_118 rfl ?_
          first | (with_reducible show WP _ _ _ _ _ _ (Value.int (bI _) :: _) _; refine wp_if_eqB (pc := 120) (tgt := 128) dX7_fever_120 (by decide) (fun c120 => ?_) (fun c120 => ?_)) | (with_reducible show WP _ _ _ _ _ _ (Value.int (nI _) :: _) _; refine wp_if_eqN (pc := 120) (tgt := 128) dX7_fever_120 (by decide) (by omega) (fun c120 => ?_) (fun c120 => ?_)) | refine wp_if_eq (pc := 120) (tgt := 128) dX7_fever_120 (by decide) (fun c120 => ?_) (fun c120 => ?_)
          refine wp_bipush (pc := 128) (v := nI 10) dX7_fever_128 rfl ?_
          refine wp_iload_n (pc := 130) (i := 2) dX7_fever_130 rfl rfl ?_
          first | (with_reducible show WP _ _ _ _ _ _ (Value.int (nI _) :: Value.int (nI _) :: _) _; refine wp_isubN (pc := 131) dX7_fever_131 (by omega) ?_) | refine wp_isub (pc := 131) dX7_fever_131 ?_
          first | (with_reducible show WP _ _ _ _ _ _ (Value.int (nI _) :: _) _; refine wp_i2lN (pc := 132) dX7_fever_132 (by omega) ?_) | refine wp_i2l (pc := 132) dX7_fever_132 rfl ?_
          rotate_left
          refine wp_iload_n (pc := 123) (i := 2) dX7_fever_123 rfl rfl ?_
          first | (with_reducible show WP _ _ _ _ _ _ (Value.int (nI _) :: _) _; refine wp_i2lN (pc := 124) dX7_fever_124 (by omega) ?_) | refine wp_i2l (pc := 124) dX7_fever_124 rfl ?_
          refine wp_goto (pc := 125) (tgt := 133) dX7_fever_125 (by decide) ?_
          rotate_left
          refine wp_iload (pc := 105) (i := 12) dX7_fever_105 rfl ?_
          first | (with_reducible show WP _ _ _ _ _ _ (Value.int (bI _) :: _) _; refine wp_if_eqB (pc := 107) (tgt := 114) dX7_fever_107 (by decide) (fun c107 => ?_) (fun c107 => ?_)) | (with_reducible show WP _ _ _ _ _ _ (Value.int (nI _) :: _) _; refine wp_if_eqN (pc := 107) (tgt := 114) dX7_fever_107 (by decide) (by omega) (fun c107 => ?_) (fun c107 => ?_)) | refine wp_if_eq (pc := 107) (tgt := 114) dX7_fever_107 (by decide) (fun c107 => ?_) (fun c107 => ?_)
          refine wp_lconst (pc := 114) (v := lN 1) dX7_fever_114 rfl ?_
          refine wp_goto (pc := 115) (tgt := 133) dX7_fever_115 (by decide) ?_
          rotate_left
          refine wp_lconst (pc := 110) (v := lN 0) dX7_fever_110 rfl ?_
          refine wp_goto (pc := 111) (tgt := 133) dX7_fever_111 (by decide) ?_
          rotate_left
          · exact absurd hgm (by omega)
          · exact fin _ (by rw [wR, if_neg (by omega), c120]; rfl)
          · exact fin _ (by rw [wR, if_neg (by omega), c120]; rfl)
          · exact fin 1 (by rw [wR, if_pos (by omega), c107]; rfl)
          · exact fin 0 (by rw [wR, if_pos (by omega), c107]; rfl)
      refine wp_iload (pc := 43) (i := 8) dX7_fever_43 rfl ?_
      refine wp_iconst (pc := 45) (v := nI 1) dX7_fever_45 rfl ?_
      refine wp_aload_n (pc := 46) (i := 0) dX7_fever_46 rfl rfl ?_
      refine wp_gfr (pc := 47) fk_X7_7 dX7_fever_47 rfl rfl (by decide) ?_
      refine wp_iconst (pc := 50) (v := nI 1) dX7_fever_50 rfl ?_
      first | (with_reducible show WP _ _ _ _ _ _ (Value.int (nI _) :: _) _; refine wp_ialdN (pc := 51) dX7_fever_51 rfl (by omega) (by first | with_reducible assumption | with_reducible exact hs_same _ _ _ _ | rfl) ?_) | refine wp_iald (pc := 51) dX7_fever_51 rfl (by assumption) rfl ?_
      first | (with_reducible show WP _ _ _ _ _ _ (Value.int (nI _) :: Value.int (nI _) :: _) _; refine wp_ishlN (pc := 52) dX7_fever_52 (by omega) ?_) | refine wp_ishl (pc := 52) dX7_fever_52 ?_
      first | (with_reducible show WP _ _ _ _ _ _ (Value.int (nI _) :: Value.int (nI _) :: _) _; refine wp_icmp_geN (pc := 53) (tgt := 204) dX7_fever_53 (by decide) (by omega) (by omega) (fun c53 => ?_) (fun c53 => ?_)) | refine wp_icmp_ge (pc := 53) (tgt := 204) dX7_fever_53 (by decide) (fun c53 => ?_) (fun c53 => ?_)
      rotate_left
      refine wp_lconst (pc := 56) (v := lN 1) dX7_fever_56 rfl ?_
      refine wp_lstore (pc := 57) (i := 9) dX7_fever_57 rfl (by decide) rfl ?_
      dsimp only [List.set_cons_zero, List.set_cons_succ]
      refine wp_aload_n (pc := 59) (i := 0) dX7_fever_59 rfl rfl ?_
      refine wp_iconst (pc := 60) (v := nI 0) dX7_fever_60 rfl ?_
      refine wp_sipush (pc := 61) (v := nI 1512) dX7_fever_61 rfl ?_
      refine wp_cV2v (pc := 64) lk_X7_132 dX7_fever_64 rfl rfl rfl (sp7_copyTown hR1 (by omega) (by omega) (by omega) (fun h2 hR2 hf2 => ?_))
      refine wp_iconst (pc := 67) (v := nI 0) dX7_fever_67 rfl ?_
      refine wp_istore (pc := 68) (i := 11) dX7_fever_68 rfl (by decide) rfl ?_
      dsimp only [List.set_cons_zero, List.set_cons_succ]
      rotate_left
      · exact absurd him (by omega)
      exact inner (T 1) 0 h2 (by omega) hf2 (by rw [feT_0]; exact hR2) _
  refine wp_lconst (pc := 34) (v := lN 0) dX7_fever_34 rfl ?_
  refine wp_lstore (pc := 35) (i := 4) dX7_fever_35 rfl (by decide) rfl ?_
  dsimp only [List.set_cons_zero, List.set_cons_succ]
  refine wp_lconst (pc := 37) (v := lN 0) dX7_fever_37 rfl ?_
  refine wp_lstore (pc := 38) (i := 6) dX7_fever_38 rfl (by decide) rfl ?_
  dsimp only [List.set_cons_zero, List.set_cons_succ]
  refine wp_iconst (pc := 40) (v := nI 0) dX7_fever_40 rfl ?_
  refine wp_istore (pc := 41) (i := 8) dX7_fever_41 rfl (by decide) rfl ?_
  dsimp only [List.set_cons_zero, List.set_cons_succ]
  rotate_left
  exact loop (2 ^ T 1) 0 h (by omega) (FB.rf h 1512) _ _ _
end RFEVER
