/-! a word on tests of numbers that come from outside -/
theorem i32_ix (x : Int32) {n : Nat} (hn : n < 2 ^ 31) : (¬ (0 ≤ x.toInt ∧ x.toInt < n)) ∨ ∃ j : Nat, j < n ∧ x = nI j := by
  rcases pk_ix x hn with h | h | h
  · exact Or.inl (fun q => by have := Int32.lt_iff_toInt_lt.mp h; have e : (0 : Int32).toInt = 0 := by decide
                              omega)
  · exact Or.inl (fun q => by have := Int32.le_iff_toInt_le.mp h; rw [nI_toInt hn] at this; omega)
  · exact Or.inr h
/-- x is one of 0 .. n - 1 -/
def inN (x : Int32) (n : Nat) : Bool := decide (0 ≤ x.toInt ∧ x.toInt < n)
theorem inN_t {x : Int32} {n : Nat} (hn : n < 2 ^ 31) (h : inN x n = true) : ∃ j : Nat, j < n ∧ x = nI j := by
  rcases i32_ix x hn with q | q
  · exact absurd (of_decide_eq_true h) q
  · exact q
theorem inN_nI {j n : Nat} (hj : j < 2 ^ 31) : inN (nI j) n = decide (j < n) := by
  unfold inN; rw [nI_toInt hj]; simp
section TOWN7
variable {G : Gt} {d : Nat} {h : Hp} {t : Nat} {T : Tn}
theorem lt0_iff (x : Int32) : x < 0 ↔ x.toInt < 0 := by rw [Int32.lt_iff_toInt_lt]; exact Iff.rfl
theorem sp_within {x a b : Int32} {K : Int32 → Hp → Prop} (k : K (bI (decide (a.toInt ≤ x.toInt ∧ x.toInt ≤ b.toInt))) h) : Call G d mX6_within [.int x, .int a, .int b] h (pI K) := by
  refine Call.of (M := mX6_within) (n := 0) (by decide +kernel) rfl ?_
  show WP _ _ _ _ 0 [some (.int x), some (.int a), some (.int b)] [] _
  refine wp_iload_n (pc := 0) (i := 0) dX6_within_0 rfl rfl ?_
  refine wp_iload_n (pc := 1) (i := 1) dX6_within_1 rfl rfl ?_
  refine wp_icmp_lt (pc := 2) (tgt := 14) dX6_within_2 (by decide) (fun c2 => ?_) (fun c2 => ?_)
  · refine wp_iconst (pc := 14) (v := nI 0) dX6_within_14 rfl ?_
    refine wp_zret (pc := 15) dX6_within_15 rfl (by first | exact Or.inl rfl | exact Or.inr rfl | assumption | exact bI_01 _) ?_
    rotate_left
    rw [decide_eq_false (fun q => by have := Int32.lt_iff_toInt_lt.mp c2; omega)] at k
    exact k
  refine wp_iload_n (pc := 5) (i := 0) dX6_within_5 rfl rfl ?_
  refine wp_iload_n (pc := 6) (i := 2) dX6_within_6 rfl rfl ?_
  refine wp_icmp_gt (pc := 7) (tgt := 14) dX6_within_7 (by decide) (fun c7 => ?_) (fun c7 => ?_)
  · refine wp_iconst (pc := 14) (v := nI 0) dX6_within_14 rfl ?_
    refine wp_zret (pc := 15) dX6_within_15 rfl (by first | exact Or.inl rfl | exact Or.inr rfl | assumption | exact bI_01 _) ?_
    rotate_left
    rw [decide_eq_false (fun q => by have := Int32.lt_iff_toInt_lt.mp c7; omega)] at k
    exact k
  refine wp_iconst (pc := 10) (v := nI 1) dX6_within_10 rfl ?_
  refine wp_goto (pc := 11) (tgt := 15) dX6_within_11 (by decide) ?_
  refine wp_zret (pc := 15) dX6_within_15 rfl (by first | exact Or.inl rfl | exact Or.inr rfl | assumption | exact bI_01 _) ?_
  rotate_left
  rw [decide_eq_true ⟨Int.not_lt.mp (fun q => c2 (Int32.lt_iff_toInt_lt.mpr q)), Int.not_lt.mp (fun q => c7 (Int32.lt_iff_toInt_lt.mpr q))⟩] at k
  exact k
theorem sp_hasChild {x : Int32} {K : Int32 → Hp → Prop} (hT : isT t) (hW : TW h t T) (hO : OKT T) (k : K (bI (inN x (T 0))) h) : Call G d mX5_hasChild [.ref t, .int x] h (pI K) := by
  obtain ⟨ht, s0, s1, s2, s3, s4, s5, s6, s7, s8, s9, s10, s11⟩ := id hT
  obtain ⟨e0, e1, e2, e3, e4, e5, e6, e7, e8, e9, e10, e11, e12, e13⟩ := id hW
  obtain ⟨o0, o1, o2, o3, o4, o5, o6, o7, o8⟩ := id hO
  have hb : (nI (T 0)).toInt = (T 0 : Int) := nI_toInt (by omega)
  refine Call.of (M := mX5_hasChild) (n := 0) (by decide +kernel) rfl ?_
  show WP _ _ _ _ 0 [some (.ref t), some (.int x)] [] _
  refine wp_iload_n (pc := 0) (i := 1) dX5_hasChild_0 rfl rfl ?_
  refine wp_if_lt (pc := 1) (tgt := 16) dX5_hasChild_1 (by decide) (fun c1 => ?_) (fun c1 => ?_)
  · refine wp_iconst (pc := 16) (v := nI 0) dX5_hasChild_16 rfl ?_
    refine wp_zret (pc := 17) dX5_hasChild_17 rfl (by first | exact Or.inl rfl | exact Or.inr rfl | assumption | exact bI_01 _) ?_
    rotate_left
    rw [inN, decide_eq_false (fun q => by have := (lt0_iff x).mp c1; omega)] at k
    exact k
  refine wp_iload_n (pc := 4) (i := 1) dX5_hasChild_4 rfl rfl ?_
  refine wp_aload_n (pc := 5) (i := 0) dX5_hasChild_5 rfl rfl ?_
  refine wp_gfv (pc := 6) fk_X5_45 dX5_hasChild_6 s0 rfl (by first | with_reducible assumption | with_reducible exact hs_same _ _ _ _ | rfl) ?_
  rotate_left
  refine wp_icmp_ge (pc := 9) (tgt := 16) dX5_hasChild_9 (by decide) (fun c9 => ?_) (fun c9 => ?_)
  · refine wp_iconst (pc := 16) (v := nI 0) dX5_hasChild_16 rfl ?_
    refine wp_zret (pc := 17) dX5_hasChild_17 rfl (by first | exact Or.inl rfl | exact Or.inr rfl | assumption | exact bI_01 _) ?_
    rotate_left
    rw [inN, decide_eq_false (fun q => by have := Int32.le_iff_toInt_le.mp c9; omega)] at k
    exact k
  refine wp_iconst (pc := 12) (v := nI 1) dX5_hasChild_12 rfl ?_
  refine wp_goto (pc := 13) (tgt := 17) dX5_hasChild_13 (by decide) ?_
  refine wp_zret (pc := 17) dX5_hasChild_17 rfl (by first | exact Or.inl rfl | exact Or.inr rfl | assumption | exact bI_01 _) ?_
  rotate_left
  rw [inN, decide_eq_true ⟨Int.not_lt.mp (fun q => c1 ((lt0_iff x).mpr q)), by have := Int.not_le.mp (fun q => c9 (Int32.le_iff_toInt_le.mpr q)); omega⟩] at k
  exact k
theorem sp_hasGran {x : Int32} {K : Int32 → Hp → Prop} (hT : isT t) (hW : TW h t T) (hO : OKT T) (k : K (bI (inN x (T 1))) h) : Call G d mX5_hasGran [.ref t, .int x] h (pI K) := by
  obtain ⟨ht, s0, s1, s2, s3, s4, s5, s6, s7, s8, s9, s10, s11⟩ := id hT
  obtain ⟨e0, e1, e2, e3, e4, e5, e6, e7, e8, e9, e10, e11, e12, e13⟩ := id hW
  obtain ⟨o0, o1, o2, o3, o4, o5, o6, o7, o8⟩ := id hO
  have hb : (nI (T 1)).toInt = (T 1 : Int) := nI_toInt (by omega)
  refine Call.of (M := mX5_hasGran) (n := 0) (by decide +kernel) rfl ?_
  show WP _ _ _ _ 0 [some (.ref t), some (.int x)] [] _
  refine wp_iload_n (pc := 0) (i := 1) dX5_hasGran_0 rfl rfl ?_
  refine wp_if_lt (pc := 1) (tgt := 16) dX5_hasGran_1 (by decide) (fun c1 => ?_) (fun c1 => ?_)
  · refine wp_iconst (pc := 16) (v := nI 0) dX5_hasGran_16 rfl ?_
    refine wp_zret (pc := 17) dX5_hasGran_17 rfl (by first | exact Or.inl rfl | exact Or.inr rfl | assumption | exact bI_01 _) ?_
    rotate_left
    rw [inN, decide_eq_false (fun q => by have := (lt0_iff x).mp c1; omega)] at k
    exact k
  refine wp_iload_n (pc := 4) (i := 1) dX5_hasGran_4 rfl rfl ?_
  refine wp_aload_n (pc := 5) (i := 0) dX5_hasGran_5 rfl rfl ?_
  refine wp_gfv (pc := 6) fk_X5_49 dX5_hasGran_6 s0 rfl (by first | with_reducible assumption | with_reducible exact hs_same _ _ _ _ | rfl) ?_
  rotate_left
  refine wp_icmp_ge (pc := 9) (tgt := 16) dX5_hasGran_9 (by decide) (fun c9 => ?_) (fun c9 => ?_)
  · refine wp_iconst (pc := 16) (v := nI 0) dX5_hasGran_16 rfl ?_
    refine wp_zret (pc := 17) dX5_hasGran_17 rfl (by first | exact Or.inl rfl | exact Or.inr rfl | assumption | exact bI_01 _) ?_
    rotate_left
    rw [inN, decide_eq_false (fun q => by have := Int32.le_iff_toInt_le.mp c9; omega)] at k
    exact k
  refine wp_iconst (pc := 12) (v := nI 1) dX5_hasGran_12 rfl ?_
  refine wp_goto (pc := 13) (tgt := 17) dX5_hasGran_13 (by decide) ?_
  refine wp_zret (pc := 17) dX5_hasGran_17 rfl (by first | exact Or.inl rfl | exact Or.inr rfl | assumption | exact bI_01 _) ?_
  rotate_left
  rw [inN, decide_eq_true ⟨Int.not_lt.mp (fun q => c1 ((lt0_iff x).mpr q)), by have := Int.not_le.mp (fun q => c9 (Int32.le_iff_toInt_le.mpr q)); omega⟩] at k
  exact k
theorem pow5 {n : Nat} (h : n ≤ 5) : 1 * 2 ^ n - 1 < 32 ∧ 1 ≤ 1 * 2 ^ n := by
  have : ∀ n, n ≤ 5 → 1 * 2 ^ n - 1 < 32 ∧ 1 ≤ 1 * 2 ^ n := by decide
  exact this n h
theorem sp_allChildren {K : Int32 → Hp → Prop} (hT : isT t) (hW : TW h t T) (hO : OKT T) (k : K (nI (1 * 2 ^ T 0 - 1)) h) : Call G d mX5_allChildren [.ref t] h (pI K) := by
  obtain ⟨ht, s0, s1, s2, s3, s4, s5, s6, s7, s8, s9, s10, s11⟩ := id hT
  obtain ⟨e0, e1, e2, e3, e4, e5, e6, e7, e8, e9, e10, e11, e12, e13⟩ := id hW
  obtain ⟨o0, o1, o2, o3, o4, o5, o6, o7, o8⟩ := id hO
  have := pow5 o0
  refine Call.of (M := mX5_allChildren) (n := 0) (by decide +kernel) rfl ?_
  show WP _ _ _ _ 0 [some (.ref t)] [] _
  refine wp_iconst (pc := 0) (v := nI 1) dX5_allChildren_0 rfl ?_
  refine wp_aload_n (pc := 1) (i := 0) dX5_allChildren_1 rfl rfl ?_
  refine wp_gfv (pc := 2) fk_X5_45 dX5_allChildren_2 s0 rfl (by first | with_reducible assumption | with_reducible exact hs_same _ _ _ _ | rfl) ?_
  first | (with_reducible show WP _ _ _ _ _ _ (Value.int (nI _) :: Value.int (nI _) :: _) _; refine wp_ishlN (pc := 5) dX5_allChildren_5 (by omega) ?_) | refine wp_ishl (pc := 5) dX5_allChildren_5 ?_
  refine wp_iconst (pc := 6) (v := nI 1) dX5_allChildren_6 rfl ?_
  first | (with_reducible show WP _ _ _ _ _ _ (Value.int (nI _) :: Value.int (nI _) :: _) _; refine wp_isubN (pc := 7) dX5_allChildren_7 (by omega) ?_) | refine wp_isub (pc := 7) dX5_allChildren_7 ?_
  refine wp_iret (pc := 8) dX5_allChildren_8 rfl ?_
  rotate_left
  exact k
theorem svs_lt (hO : OKT T) (h0 : 0 < T 0) : ∀ n, svs T n < 2 ^ 5
  | 0 => (by decide : 0 < 2 ^ 5)
  | n + 1 => by
    have hs : ∀ k, sv T n k < 2 ^ 5 := fun k => by
      induction k with
      | zero => exact (by decide : 0 < 2 ^ 5)
      | succ k ih =>
        unfold sv
        refine or_lt ih ?_
        split
        · have h1 : hst T n k < T 0 := Nat.mod_lt _ h0
          have h2 := hO.1
          exact Nat.pow_lt_pow_right (by decide) (by omega)
        · decide
    exact or_lt (svs_lt hO h0 n) (hs _)
theorem sp_servedIn {n : Nat} {K : Int32 → Hp → Prop} (hT : isT t) (hW : TW h t T) (hO : OKT T) (hn : n ≤ 100) (k : ∀ h', TW h' t T → Fr h h' t → (∀ a, a ≠ t + 10 → a ≠ t + 11 → h' a = h a) → K (nI (svs T n)) h') : Call G (d + 3) mX5_servedIn [.ref t, .int (nI n)] h (pI K) := by
  obtain ⟨ht, s0, s1, s2, s3, s4, s5, s6, s7, s8, s9, s10, s11⟩ := id hT
  have loop : ∀ m i h1, i + m = n → (∀ a, a ≠ t + 10 → a ≠ t + 11 → h1 a = h a) → WP G (d + 3) mX5_servedIn (pI K) 4 [some (.ref t), some (.int (nI n)), some (.int (nI (svs T i))), some (.int (nI i))] [] h1 := by
    intro m
    induction m with
    | zero =>
      intro i h1 him hF
      refine wp_iload_n (pc := 4) (i := 3) dX5_servedIn_4 rfl rfl ?_
      refine wp_iload_n (pc := 5) (i := 1) dX5_servedIn_5 rfl rfl ?_
      first | (with_reducible show WP _ _ _ _ _ _ (Value.int (nI _) :: Value.int (nI _) :: _) _; refine wp_icmp_geN (pc := 6) (tgt := 23) dX5_servedIn_6 (by decide) (by omega) (by omega) (fun c6 => ?_) (fun c6 => ?_)) | refine wp_icmp_ge (pc := 6) (tgt := 23) dX5_servedIn_6 (by decide) (fun c6 => ?_) (fun c6 => ?_)
      refine wp_iload_n (pc := 23) (i := 2) dX5_servedIn_23 rfl rfl ?_
      refine wp_iret (pc := 24) dX5_servedIn_24 rfl ?_
      rotate_left
      rotate_left
      · rw [show i = n by omega]; exact k h1 (hW.cg hF) (fun a ha => hF a (by omega) (by omega)) hF
      · exact absurd him (by omega)
    | succ m ih =>
      intro i h1 him hF
      refine wp_iload_n (pc := 4) (i := 3) dX5_servedIn_4 rfl rfl ?_
      refine wp_iload_n (pc := 5) (i := 1) dX5_servedIn_5 rfl rfl ?_
      first | (with_reducible show WP _ _ _ _ _ _ (Value.int (nI _) :: Value.int (nI _) :: _) _; refine wp_icmp_geN (pc := 6) (tgt := 23) dX5_servedIn_6 (by decide) (by omega) (by omega) (fun c6 => ?_) (fun c6 => ?_)) | refine wp_icmp_ge (pc := 6) (tgt := 23) dX5_servedIn_6 (by decide) (fun c6 => ?_) (fun c6 => ?_)
      rotate_left
      refine wp_iload_n (pc := 9) (i := 2) dX5_servedIn_9 rfl rfl ?_
      refine wp_aload_n (pc := 10) (i := 0) dX5_servedIn_10 rfl rfl ?_
      refine wp_iload_n (pc := 11) (i := 3) dX5_servedIn_11 rfl rfl ?_
      refine wp_cV1i (pc := 12) lk_X5_74 dX5_servedIn_12 s0 rfl rfl (sp_servedOn hT (hW.cg hF) hO (by omega) (fun h2 hs2 => ?_))
      first | (with_reducible show WP _ _ _ _ _ _ (Value.int (nI _) :: Value.int (nI _) :: _) _; refine wp_iorN (pc := 15) dX5_servedIn_15 ?_) | refine wp_ior (pc := 15) dX5_servedIn_15 ?_
      refine wp_istore_n (pc := 16) (i := 2) dX5_servedIn_16 rfl rfl (by decide) rfl ?_
      dsimp only [List.set_cons_zero, List.set_cons_succ]
      first | refine wp_iincN (pc := 17) (i := 3) (n := 1) dX5_servedIn_17 rfl rfl (by decide) rfl ?_ | refine wp_iinc (pc := 17) (i := 3) dX5_servedIn_17 rfl rfl rfl (by decide) rfl ?_
      dsimp only [List.set_cons_zero, List.set_cons_succ]
      refine wp_goto (pc := 20) (tgt := 4) dX5_servedIn_20 (by decide) ?_
      rotate_left
      · exact absurd him (by omega)
      · exact ih (i + 1) h2 (by omega) (fun a a1 a2 => (hs2.1 a a1 a2).trans (hF a a1 a2))
  refine Call.of (M := mX5_servedIn) (n := 2) (by decide +kernel) rfl ?_
  show WP _ _ _ _ 0 [some (.ref t), some (.int (nI n)), none, none] [] _
  refine wp_iconst (pc := 0) (v := nI 0) dX5_servedIn_0 rfl ?_
  refine wp_istore_n (pc := 1) (i := 2) dX5_servedIn_1 rfl rfl (by decide) rfl ?_
  dsimp only [List.set_cons_zero, List.set_cons_succ]
  refine wp_iconst (pc := 2) (v := nI 0) dX5_servedIn_2 rfl ?_
  refine wp_istore_n (pc := 3) (i := 3) dX5_servedIn_3 rfl rfl (by decide) rfl ?_
  dsimp only [List.set_cons_zero, List.set_cons_succ]
  rotate_left
  exact loop n 0 h (by omega) (fun _ _ _ => rfl)
/-- behind how many days first a child has heard all: from day n on, m days are looked at -/
def whl (T : Tn) (c : Nat) : Nat → Nat → Option Nat
  | _, 0 => none
  | n, m + 1 => if itP T n (15 + c) = 1 * 2 ^ T 3 - 1 then some n else whl T c (n + 1) m
theorem pow6 {n : Nat} (h : n ≤ 6) : 1 * 2 ^ n - 1 < 64 ∧ 1 ≤ 1 * 2 ^ n := by
  have : ∀ n, n ≤ 6 → 1 * 2 ^ n - 1 < 64 ∧ 1 ≤ 1 * 2 ^ n := by decide
  exact this n h
theorem sp_daysToWhole {c : Nat} {K : Int32 → Hp → Prop} (hT : isT t) (hW : TW h t T) (hO : OKT T) (hc : c < T 0) (h0 : 0 < T 1) (hd : T 4 + 61 ≤ 1200) (k : ∀ h', Fr h h' t → K (oI (whl T c 0 61)) h') : Call G (d + 4) mX5_daysToWhole [.ref t, .int (nI c)] h (pI K) := by
  obtain ⟨ht, s0, s1, s2, s3, s4, s5, s6, s7, s8, s9, s10, s11⟩ := id hT
  obtain ⟨e0, e1, e2, e3, e4, e5, e6, e7, e8, e9, e10, e11, e12, e13⟩ := id hW
  obtain ⟨o0, o1, o2, o3, o4, o5, o6, o7, o8⟩ := id hO
  have pw := pow6 o3
  have loop : ∀ m i h1, i + m = 61 → Fr h h1 t → TW h1 t (itP T i) → (whl T c 0 61 = whl T c i m) → WP G (d + 4) mX5_daysToWhole (pI K) 11 [some (.ref t), some (.int (nI c)), some (.int (nI (1 * 2 ^ T 3 - 1))), some (.int (nI i))] [] h1 := by
    intro m
    induction m with
    | zero =>
      intro i h1 him hF hW1 hw
      refine wp_iload_n (pc := 11) (i := 3) dX5_daysToWhole_11 rfl rfl ?_
      refine wp_bipush (pc := 12) (v := nI 60) dX5_daysToWhole_12 rfl ?_
      first | (with_reducible show WP _ _ _ _ _ _ (Value.int (nI _) :: Value.int (nI _) :: _) _; refine wp_icmp_gtN (pc := 14) (tgt := 39) dX5_daysToWhole_14 (by decide) (by omega) (by omega) (fun c14 => ?_) (fun c14 => ?_)) | refine wp_icmp_gt (pc := 14) (tgt := 39) dX5_daysToWhole_14 (by decide) (fun c14 => ?_) (fun c14 => ?_)
      refine wp_ldc (pc := 39) kn_X5_61 dX5_daysToWhole_39 ?_
      refine wp_iret (pc := 41) dX5_daysToWhole_41 rfl ?_
      rotate_left
      rotate_left
      · rw [hw] at k; exact k h1 hF
      · exact absurd him (by omega)
    | succ m ih =>
      intro i h1 him hF hW1 hw
      obtain ⟨a, b, e⟩ := itP_keep hO h0 i (by omega)
      have e7 := hW1.2.2.2.2.2.2.2.1
      have e00 := e 0 (by omega)
      have r7 := e7 c (by omega)
      have b7 := (a.2.2.2.2.2.2.1 c (by omega)).2.2
      refine wp_iload_n (pc := 11) (i := 3) dX5_daysToWhole_11 rfl rfl ?_
      refine wp_bipush (pc := 12) (v := nI 60) dX5_daysToWhole_12 rfl ?_
      first | (with_reducible show WP _ _ _ _ _ _ (Value.int (nI _) :: Value.int (nI _) :: _) _; refine wp_icmp_gtN (pc := 14) (tgt := 39) dX5_daysToWhole_14 (by decide) (by omega) (by omega) (fun c14 => ?_) (fun c14 => ?_)) | refine wp_icmp_gt (pc := 14) (tgt := 39) dX5_daysToWhole_14 (by decide) (fun c14 => ?_) (fun c14 => ?_)
      rotate_left
      refine wp_aload_n (pc := 17) (i := 0) dX5_daysToWhole_17 rfl rfl ?_
      refine wp_gfr (pc := 18) fk_X5_18 dX5_daysToWhole_18 s0 rfl (by omega) ?_
      refine wp_iload_n (pc := 21) (i := 1) dX5_daysToWhole_21 rfl rfl ?_
      first | (with_reducible show WP _ _ _ _ _ _ (Value.int (nI _) :: _) _; refine wp_ialdN (pc := 22) dX5_daysToWhole_22 s3 (by omega) (by first | with_reducible assumption | with_reducible exact hs_same _ _ _ _ | rfl) ?_) | refine wp_iald (pc := 22) dX5_daysToWhole_22 s3 (by assumption) rfl ?_
      refine wp_iload_n (pc := 23) (i := 2) dX5_daysToWhole_23 rfl rfl ?_
      first | (with_reducible show WP _ _ _ _ _ _ (Value.int (nI _) :: Value.int (nI _) :: _) _; refine wp_icmp_neN (pc := 24) (tgt := 29) dX5_daysToWhole_24 (by decide) (by omega) (by omega) (fun c24 => ?_) (fun c24 => ?_)) | refine wp_icmp_ne (pc := 24) (tgt := 29) dX5_daysToWhole_24 (by decide) (fun c24 => ?_) (fun c24 => ?_)
      refine wp_aload_n (pc := 29) (i := 0) dX5_daysToWhole_29 rfl rfl ?_
      refine wp_cV0v (pc := 30) lk_X5_78 dX5_daysToWhole_30 s0 rfl rfl (sp_passDay hT hW1 a (by rw [e 1 (by omega)]; exact h0) (by omega) (fun h2 hW2 hF2 => ?_))
      first | refine wp_iincN (pc := 33) (i := 3) (n := 1) dX5_daysToWhole_33 rfl rfl (by decide) rfl ?_ | refine wp_iinc (pc := 33) (i := 3) dX5_daysToWhole_33 rfl rfl rfl (by decide) rfl ?_
      dsimp only [List.set_cons_zero, List.set_cons_succ]
      refine wp_goto (pc := 36) (tgt := 11) dX5_daysToWhole_36 (by decide) ?_
      rotate_left
      refine wp_iload_n (pc := 27) (i := 3) dX5_daysToWhole_27 rfl rfl ?_
      refine wp_iret (pc := 28) dX5_daysToWhole_28 rfl ?_
      rotate_left
      · exact absurd c14 (by omega)
      · refine ih (i + 1) h2 (by omega) (hF.tr hF2) hW2 ?_
        rw [hw, whl, if_neg c24]
      · rw [hw, whl, if_pos c24] at k; exact k h1 hF
  refine Call.of (M := mX5_daysToWhole) (n := 2) (by decide +kernel) rfl ?_
  show WP _ _ _ _ 0 [some (.ref t), some (.int (nI c)), none, none] [] _
  refine wp_iconst (pc := 0) (v := nI 1) dX5_daysToWhole_0 rfl ?_
  refine wp_aload_n (pc := 1) (i := 0) dX5_daysToWhole_1 rfl rfl ?_
  refine wp_gfv (pc := 2) fk_X5_55 dX5_daysToWhole_2 s0 rfl (by first | with_reducible assumption | with_reducible exact hs_same _ _ _ _ | rfl) ?_
  first | (with_reducible show WP _ _ _ _ _ _ (Value.int (nI _) :: Value.int (nI _) :: _) _; refine wp_ishlN (pc := 5) dX5_daysToWhole_5 (by omega) ?_) | refine wp_ishl (pc := 5) dX5_daysToWhole_5 ?_
  refine wp_iconst (pc := 6) (v := nI 1) dX5_daysToWhole_6 rfl ?_
  first | (with_reducible show WP _ _ _ _ _ _ (Value.int (nI _) :: Value.int (nI _) :: _) _; refine wp_isubN (pc := 7) dX5_daysToWhole_7 (by omega) ?_) | refine wp_isub (pc := 7) dX5_daysToWhole_7 ?_
  refine wp_istore_n (pc := 8) (i := 2) dX5_daysToWhole_8 rfl rfl (by decide) rfl ?_
  dsimp only [List.set_cons_zero, List.set_cons_succ]
  refine wp_iconst (pc := 9) (v := nI 0) dX5_daysToWhole_9 rfl ?_
  refine wp_istore_n (pc := 10) (i := 3) dX5_daysToWhole_10 rfl rfl (by decide) rfl ?_
  dsimp only [List.set_cons_zero, List.set_cons_succ]
  rotate_left
  exact loop 61 0 h (by omega) (Fr.rf h t) hW rfl
def smU (f : Nat → Nat) : Nat → Nat
  | 0 => 0
  | n + 1 => smU f n + f n
theorem smU_le {f : Nat → Nat} {b : Nat} : ∀ n, (∀ i, i < n → f i ≤ b) → smU f n ≤ n * b
  | 0, _ => by simp [smU]
  | n + 1, h => by
    have := smU_le n (fun i hi => h i (by omega))
    have := h n (by omega)
    unfold smU
    rw [Nat.succ_mul]
    omega
theorem sp_sumOf {p n z : Nat} {f : Nat → Nat} {K : Int32 → Hp → Prop} (hsr : shp[p]? = some (1, z, [])) (hz : n ≤ z) (hf : ∀ i, i < n → h p i = nI (f i)) (hn : n < 2 ^ 31) (k : K (nI (smU f n)) h) : Call G d mX5_sumOf [.ref p, .int (nI n)] h (pI K) := by
  have loop : ∀ m i, i + m = n → WP G d mX5_sumOf (pI K) 4 [some (.ref p), some (.int (nI n)), some (.int (nI (smU f i))), some (.int (nI i))] [] h := by
    intro m
    induction m with
    | zero =>
      intro i him
      refine wp_iload_n (pc := 4) (i := 3) dX5_sumOf_4 rfl rfl ?_
      refine wp_iload_n (pc := 5) (i := 1) dX5_sumOf_5 rfl rfl ?_
      first | (with_reducible show WP _ _ _ _ _ _ (Value.int (nI _) :: Value.int (nI _) :: _) _; refine wp_icmp_geN (pc := 6) (tgt := 21) dX5_sumOf_6 (by decide) (by omega) (by omega) (fun c6 => ?_) (fun c6 => ?_)) | refine wp_icmp_ge (pc := 6) (tgt := 21) dX5_sumOf_6 (by decide) (fun c6 => ?_) (fun c6 => ?_)
      refine wp_iload_n (pc := 21) (i := 2) dX5_sumOf_21 rfl rfl ?_
      refine wp_iret (pc := 22) dX5_sumOf_22 rfl ?_
      rotate_left
      rotate_left
      · rw [show i = n by omega]; exact k
      · exact absurd him (by omega)
    | succ m ih =>
      intro i him
      have hh := ih (i + 1) (by omega)
      refine wp_iload_n (pc := 4) (i := 3) dX5_sumOf_4 rfl rfl ?_
      refine wp_iload_n (pc := 5) (i := 1) dX5_sumOf_5 rfl rfl ?_
      first | (with_reducible show WP _ _ _ _ _ _ (Value.int (nI _) :: Value.int (nI _) :: _) _; refine wp_icmp_geN (pc := 6) (tgt := 21) dX5_sumOf_6 (by decide) (by omega) (by omega) (fun c6 => ?_) (fun c6 => ?_)) | refine wp_icmp_ge (pc := 6) (tgt := 21) dX5_sumOf_6 (by decide) (fun c6 => ?_) (fun c6 => ?_)
      rotate_left
      refine wp_iload_n (pc := 9) (i := 2) dX5_sumOf_9 rfl rfl ?_
      refine wp_aload_n (pc := 10) (i := 0) dX5_sumOf_10 rfl rfl ?_
      refine wp_iload_n (pc := 11) (i := 3) dX5_sumOf_11 rfl rfl ?_
      first | (with_reducible show WP _ _ _ _ _ _ (Value.int (nI _) :: _) _; refine wp_ialdN (pc := 12) dX5_sumOf_12 hsr (by omega) (by first | with_reducible assumption | with_reducible exact hs_same _ _ _ _ | with_reducible exact hf _ (by omega) | rfl) ?_) | refine wp_iald (pc := 12) dX5_sumOf_12 hsr (by assumption) rfl ?_
      first | (with_reducible show WP _ _ _ _ _ _ (Value.int (nI _) :: Value.int (nI _) :: _) _; refine wp_iaddN (pc := 13) dX5_sumOf_13 ?_) | refine wp_iadd (pc := 13) dX5_sumOf_13 ?_
      refine wp_istore_n (pc := 14) (i := 2) dX5_sumOf_14 rfl rfl (by decide) rfl ?_
      dsimp only [List.set_cons_zero, List.set_cons_succ]
      first | refine wp_iincN (pc := 15) (i := 3) (n := 1) dX5_sumOf_15 rfl rfl (by decide) rfl ?_ | refine wp_iinc (pc := 15) (i := 3) dX5_sumOf_15 rfl rfl rfl (by decide) rfl ?_
      dsimp only [List.set_cons_zero, List.set_cons_succ]
      refine wp_goto (pc := 18) (tgt := 4) dX5_sumOf_18 (by decide) ?_
      rotate_left
      · exact absurd him (by omega)
      · exact hh
  refine Call.of (M := mX5_sumOf) (n := 2) (by decide +kernel) rfl ?_
  show WP _ _ _ _ 0 [some (.ref p), some (.int (nI n)), none, none] [] _
  refine wp_iconst (pc := 0) (v := nI 0) dX5_sumOf_0 rfl ?_
  refine wp_istore_n (pc := 1) (i := 2) dX5_sumOf_1 rfl rfl (by decide) rfl ?_
  dsimp only [List.set_cons_zero, List.set_cons_succ]
  refine wp_iconst (pc := 2) (v := nI 0) dX5_sumOf_2 rfl ?_
  refine wp_istore_n (pc := 3) (i := 3) dX5_sumOf_3 rfl rfl (by decide) rfl ?_
  dsimp only [List.set_cons_zero, List.set_cons_succ]
  rotate_left
  exact loop n 0 (by omega)
end TOWN7
