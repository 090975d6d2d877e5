/-! the reference's town -/
/-- only the town at b has changed -/
def FB (h h' : Hp) (b : Nat) : Prop := (∀ a, a ≠ 90 → h' a = h a) ∧ ∀ k, k < b ∨ b + 56 ≤ k → h' 90 k = h 90 k
theorem FB.rf (h : Hp) (b : Nat) : FB h h b := ⟨fun _ _ => rfl, fun _ _ => rfl⟩
theorem FB.tr {h h1 h2 : Hp} {b : Nat} (x : FB h h1 b) (y : FB h1 h2 b) : FB h h2 b := ⟨fun a e => (y.1 a e).trans (x.1 a e), fun k e => (y.2 k e).trans (x.2 k e)⟩
theorem FB.hs {h h1 : Hp} {b j : Nat} {v : Int32} (x : FB h h1 b) (h1' : b ≤ j) (h2 : j < b + 56) : FB h (hs h1 90 j v) b := ⟨fun a e => (hs_ne e).trans (x.1 a e), fun k e => (hs_ix (by omega)).trans (x.2 k e)⟩
theorem RWup {h : Hp} {b j v : Nat} {T : Tn} (H : RW h b T) (hj : j < 56) : RW (hs h 90 (b + j) (nI v)) b (up T j v) := fun k hk => by
  by_cases z : k = j
  · subst z; rw [hs_same, up_same]
  · rw [hs_ix (by omega), up_ne z]; exact H k hk
theorem RWup2 {h : Hp} {b i c v : Nat} {T : Tn} (H : RW h b T) (hj : i + c < 56) : RW (hs h 90 (b + i + c) (nI v)) b (up T (i + c) v) := by rw [Nat.add_assoc]; exact RWup H hj
def lz (T : Tn) (g : Nat) : Nat → Bool
  | 0 => false
  | k + 1 => lz T g k || ((T (50 + g)).testBit k && (wt T 0 g).isSome && decide (wt T 0 k = wt T 0 g))
theorem gu_bit (T : Tn) (n c j : Nat) : ∀ k, (gu T n k c).testBit j = (decide (j < k) && decide (wt T n j = some c))
  | 0 => by simp [gu]
  | k + 1 => by
    unfold gu
    rw [Nat.testBit_or, gu_bit T n c j k]
    by_cases e : wt T n k = some c
    · rw [if_pos e, Nat.testBit_two_pow]
      by_cases q : j = k
      · subst q; simp [e]
      · by_cases z : j < k
        · simp [z, show j < k + 1 by omega, show ¬ k = j by omega]
        · simp [z, show ¬ j < k + 1 by omega, show ¬ k = j by omega]
    · rw [if_neg e, Nat.zero_testBit]
      by_cases q : j = k
      · subst q; simp [e]
      · by_cases z : j < k
        · simp [z, show j < k + 1 by omega]
        · simp [z, show ¬ j < k + 1 by omega]
theorem lz_ex (T : Tn) (g c : Nat) (hc : wt T 0 g = some c) : ∀ k, lz T g k = true ↔ ∃ j, j < k ∧ (T (50 + g)).testBit j = true ∧ wt T 0 j = some c
  | 0 => by simp [lz]
  | k + 1 => by
    unfold lz
    rw [Bool.or_eq_true, lz_ex T g c hc k, hc]
    simp only [Option.isSome_some, Bool.and_true, Bool.and_eq_true, decide_eq_true_eq]
    constructor
    · rintro (⟨j, h1, h2⟩ | h)
      · exact ⟨j, by omega, h2⟩
      · exact ⟨k, by omega, h⟩
    · rintro ⟨j, h1, h2⟩
      by_cases q : j = k
      · subst q; exact Or.inr h2
      · exact Or.inl ⟨j, by omega, h2⟩
theorem lz_none (T : Tn) (g : Nat) (hc : wt T 0 g = none) : ∀ k, lz T g k = false
  | 0 => rfl
  | k + 1 => by unfold lz; rw [lz_none T g hc k, hc]; simp
theorem lz_br (T : Tn) (g : Nat) : lz T g (T 1) = ((wt T 0 g).isSome && !br T 0 g) := by
  rcases hc : wt T 0 g with _ | c
  · rw [lz_none T g hc]; rfl
  · rw [br_some hc, Option.isSome_some, Bool.true_and, Bool.eq_iff_iff, lz_ex T g c hc, Bool.not_eq_true', decide_eq_false_iff_not]
    constructor
    · rintro ⟨j, h1, h2, h3⟩ h4
      have := congrArg (fun x => x.testBit j) h4
      simp [Nat.testBit_and, gu_bit, h1, h2, h3] at this
    · intro h4
      refine Classical.byContradiction (fun h5 => h4 (Nat.eq_of_testBit_eq (fun j => ?_)))
      rw [Nat.testBit_and, gu_bit, Nat.zero_testBit]
      by_cases h1 : j < T 1
      · by_cases h3 : wt T 0 j = some c
        · cases h2 : (T (50 + g)).testBit j with
          | false => simp
          | true => exact absurd ⟨j, h1, h2, h3⟩ h5
        · simp [h3]
      · simp [h1]
theorem clI_lo {m : Nat} {z : Int32} (hm : m < 2 ^ 30) (h : z < 0) : clI m z = nI 0 := by
  have h1 := Int32.lt_iff_toInt_lt.mp h
  have e0 : (0 : Int32).toInt = 0 := by decide
  have a1 : z < nI m := Int32.lt_iff_toInt_lt.mpr (by rw [nI_toInt (show m < 2 ^ 31 by omega)]; omega)
  unfold clI
  rw [if_pos a1, if_neg (fun q => by
    have := Int32.lt_iff_toInt_lt.mp q
    rw [nI_toInt (show 0 < 2 ^ 31 by decide)] at this; omega)]
theorem clI_mid {m : Nat} {z : Int32} (hm : m < 2 ^ 30) (h : ¬ z < 0) (h2 : z ≤ nI m) : clI m z = z := by
  obtain ⟨a, ha, rfl⟩ := nI_of h
  have h3 := (nI_leI ha (show m < 2 ^ 31 by omega)).mp h2
  unfold clI
  by_cases q : a < m
  · rw [if_pos ((nI_ltI ha (by omega)).mpr q)]
    by_cases z : 0 < a
    · rw [if_pos ((nI_ltI (by omega) ha).mpr z)]
    · rw [if_neg (fun y => z ((nI_ltI (by omega) ha).mp y)), show a = 0 by omega]
  · rw [if_neg (fun y => q ((nI_ltI ha (by omega)).mp y)), show a = m by omega]
    by_cases z : 0 < m
    · rw [if_pos ((nI_ltI (by omega) (by omega)).mpr z)]
    · rw [if_neg (fun y => z ((nI_ltI (by omega) (by omega)).mp y)), show m = 0 by omega]
theorem clI_hi {m : Nat} {z : Int32} (hm : m < 2 ^ 30) (h : ¬ z < 0) (h2 : ¬ z ≤ nI m) : clI m z = nI m := by
  obtain ⟨a, ha, rfl⟩ := nI_of h
  have h3 : ¬ a ≤ m := fun q => h2 ((nI_leI ha (show m < 2 ^ 31 by omega)).mpr q)
  have a1 : ¬ nI a < nI m := fun y => by have := (nI_ltI ha (show m < 2 ^ 31 by omega)).mp y; omega
  unfold clI
  rw [if_neg a1]
  by_cases z : 0 < m
  · rw [if_pos ((nI_ltI (by omega) (by omega)).mpr z)]
  · rw [if_neg (fun y => z ((nI_ltI (by omega) (by omega)).mp y)), show m = 0 by omega]
section RTOWN
variable {G : Gt} {d : Nat} {h : Hp} {T : Tn} {b : Nat}
theorem sp7_has {s k : Nat} {K : Int32 → Hp → Prop} (hs' : s < 2 ^ 31) (hk : k < 32) (kk : K (bI (s.testBit k)) h) : Call G d mX7_has [.int (nI s), .int (nI k)] h (pI K) := by
  have b1 : s / 2 ^ k &&& 1 ≤ 1 := Nat.and_le_right
  refine Call.of (M := mX7_has) (n := 0) (by decide +kernel) rfl ?_
  show WP _ _ _ _ 0 [some (.int (nI s)), some (.int (nI k))] [] _
  refine wp_iload_n (pc := 0) (i := 0) dX7_has_0 rfl rfl ?_
  refine wp_iload_n (pc := 1) (i := 1) dX7_has_1 rfl rfl ?_
  first | (with_reducible show WP _ _ _ _ _ _ (Value.int (nI _) :: Value.int (nI _) :: _) _; refine wp_ishrN (pc := 2) dX7_has_2 (by omega) (by omega) ?_) | refine wp_ishr (pc := 2) dX7_has_2 ?_
  refine wp_iconst (pc := 3) (v := nI 1) dX7_has_3 rfl ?_
  first | (with_reducible show WP _ _ _ _ _ _ (Value.int (nI _) :: Value.int (nI _) :: _) _; refine wp_iandN (pc := 4) dX7_has_4 ?_) | refine wp_iand (pc := 4) dX7_has_4 ?_
  refine wp_iconst (pc := 5) (v := nI 1) dX7_has_5 rfl ?_
  first | (with_reducible show WP _ _ _ _ _ _ (Value.int (nI _) :: Value.int (nI _) :: _) _; refine wp_icmp_neN (pc := 6) (tgt := 13) dX7_has_6 (by decide) (by omega) (by omega) (fun c6 => ?_) (fun c6 => ?_)) | refine wp_icmp_ne (pc := 6) (tgt := 13) dX7_has_6 (by decide) (fun c6 => ?_) (fun c6 => ?_)
  refine wp_iconst (pc := 13) (v := nI 0) dX7_has_13 rfl ?_
  refine wp_zret (pc := 14) dX7_has_14 rfl (by first | exact Or.inl rfl | exact Or.inr rfl | assumption | exact bI_01 _) ?_
  rotate_left
  refine wp_iconst (pc := 9) (v := nI 1) dX7_has_9 rfl ?_
  refine wp_goto (pc := 10) (tgt := 14) dX7_has_10 (by decide) ?_
  refine wp_zret (pc := 14) dX7_has_14 rfl (by first | exact Or.inl rfl | exact Or.inr rfl | assumption | exact bI_01 _) ?_
  rotate_left
  · have : s.testBit k = false := by cases q : s.testBit k with
      | false => rfl
      | true => exact absurd ((bit_iff s k).mpr q) c6
    rw [this] at kk; exact kk
  · rw [(bit_iff s k).mp c6] at kk; exact kk
theorem sp7_between {m : Nat} {z : Int32} {K : Int32 → Hp → Prop} (hm : m < 2 ^ 30) (k : K (clI m z) h) : Call G d mX7_between [.int z, .int (nI m)] h (pI K) := by
  refine Call.of (M := mX7_between) (n := 0) (by decide +kernel) rfl ?_
  show WP _ _ _ _ 0 [some (.int z), some (.int (nI m))] [] _
  refine wp_iload_n (pc := 0) (i := 0) dX7_between_0 rfl rfl ?_
  refine wp_if_ge (pc := 1) (tgt := 8) dX7_between_1 (by decide) (fun c1 => ?_) (fun c1 => ?_)
  · have c1 : ¬ z < 0 := Int32.not_lt.mpr c1
    refine wp_iload_n (pc := 8) (i := 0) dX7_between_8 rfl rfl ?_
    refine wp_iload_n (pc := 9) (i := 1) dX7_between_9 rfl rfl ?_
    refine wp_icmp_le (pc := 10) (tgt := 17) dX7_between_10 (by decide) (fun c10 => ?_) (fun c10 => ?_)
    · refine wp_iload_n (pc := 17) (i := 0) dX7_between_17 rfl rfl ?_
      refine wp_iret (pc := 18) dX7_between_18 rfl ?_
      rotate_left
      rw [clI_mid hm c1 c10] at k; exact k
    · refine wp_iload_n (pc := 13) (i := 1) dX7_between_13 rfl rfl ?_
      refine wp_goto (pc := 14) (tgt := 18) dX7_between_14 (by decide) ?_
      refine wp_iret (pc := 18) dX7_between_18 rfl ?_
      rotate_left
      rw [clI_hi hm c1 c10] at k; exact k
  · refine wp_iconst (pc := 4) (v := nI 0) dX7_between_4 rfl ?_
    refine wp_goto (pc := 5) (tgt := 18) dX7_between_5 (by decide) ?_
    refine wp_iret (pc := 18) dX7_between_18 rfl ?_
    rotate_left
    rw [clI_lo hm (Int32.not_le.mp c1)] at k; exact k
theorem sp7_withOf {g : Nat} {o : Option Nat} {K : Int32 → Hp → Prop} (hR : RW h b T) (hO : OKT T) (hb : b + 56 ≤ 1568) (hg : g < T 1) (ho : wt T 0 g = o) (k : K (oI o) h) : Call G d mX7_withOf [.ref 89, .int (nI b), .int (nI g)] h (pI K) := by
  obtain ⟨o0, o1, o2, o3, o4, o5, o6, o7, o8⟩ := id hO
  subst ho
  obtain ⟨-, g1, g2, g3, g4, g5⟩ := o7 g hg
  have p0 := o5 (by omega)
  have hp := prod_le g3 o4
  have w1 : ∀ k, k < 56 → h 90 (b + k) = nI (T k) := hR
  have w2 : ∀ k g, k + g < 56 → h 90 (b + k + g) = nI (T (k + g)) := fun k g hk => by rw [Nat.add_assoc]; exact hR _ hk
  refine Call.of (M := mX7_withOf) (n := 0) (by decide +kernel) rfl ?_
  show WP _ _ _ _ 0 [some (.ref 89), some (.int (nI b)), some (.int (nI g))] [] _
  refine wp_aload_n (pc := 0) (i := 0) dX7_withOf_0 rfl rfl ?_
  refine wp_gfr (pc := 1) fk_X7_7 dX7_withOf_1 rfl rfl (by decide) ?_
  refine wp_iload_n (pc := 4) (i := 1) dX7_withOf_4 rfl rfl ?_
  refine wp_bipush (pc := 5) (v := nI 44) dX7_withOf_5 rfl ?_
  first | (with_reducible show WP _ _ _ _ _ _ (Value.int (nI _) :: Value.int (nI _) :: _) _; refine wp_iaddN (pc := 7) dX7_withOf_7 ?_) | refine wp_iadd (pc := 7) dX7_withOf_7 ?_
  refine wp_iload_n (pc := 8) (i := 2) dX7_withOf_8 rfl rfl ?_
  first | (with_reducible show WP _ _ _ _ _ _ (Value.int (nI _) :: Value.int (nI _) :: _) _; refine wp_iaddN (pc := 9) dX7_withOf_9 ?_) | refine wp_iadd (pc := 9) dX7_withOf_9 ?_
  first | (with_reducible show WP _ _ _ _ _ _ (Value.int (nI _) :: _) _; refine wp_ialdN (pc := 10) dX7_withOf_10 rfl (by omega) (by first | exact w1 _ (by omega) | exact w2 _ _ (by omega) | rfl) ?_) | refine wp_iald (pc := 10) dX7_withOf_10 rfl (by assumption) rfl ?_
  first | (with_reducible show WP _ _ _ _ _ _ (Value.int (nI _) :: _) _; refine wp_if_leN (pc := 11) (tgt := 19) dX7_withOf_11 (by decide) (by omega) (fun c11 => ?_) (fun c11 => ?_)) | refine wp_if_le (pc := 11) (tgt := 19) dX7_withOf_11 (by decide) (fun c11 => ?_) (fun c11 => ?_)
  refine wp_aload_n (pc := 19) (i := 0) dX7_withOf_19 rfl rfl ?_
  refine wp_gfr (pc := 20) fk_X7_7 dX7_withOf_20 rfl rfl (by decide) ?_
  refine wp_iload_n (pc := 23) (i := 1) dX7_withOf_23 rfl rfl ?_
  refine wp_bipush (pc := 24) (v := nI 32) dX7_withOf_24 rfl ?_
  first | (with_reducible show WP _ _ _ _ _ _ (Value.int (nI _) :: Value.int (nI _) :: _) _; refine wp_iaddN (pc := 26) dX7_withOf_26 ?_) | refine wp_iadd (pc := 26) dX7_withOf_26 ?_
  refine wp_iload_n (pc := 27) (i := 2) dX7_withOf_27 rfl rfl ?_
  first | (with_reducible show WP _ _ _ _ _ _ (Value.int (nI _) :: Value.int (nI _) :: _) _; refine wp_iaddN (pc := 28) dX7_withOf_28 ?_) | refine wp_iadd (pc := 28) dX7_withOf_28 ?_
  first | (with_reducible show WP _ _ _ _ _ _ (Value.int (nI _) :: _) _; refine wp_ialdN (pc := 29) dX7_withOf_29 rfl (by omega) (by first | exact w1 _ (by omega) | exact w2 _ _ (by omega) | rfl) ?_) | refine wp_iald (pc := 29) dX7_withOf_29 rfl (by assumption) rfl ?_
  refine wp_aload_n (pc := 30) (i := 0) dX7_withOf_30 rfl rfl ?_
  refine wp_gfr (pc := 31) fk_X7_7 dX7_withOf_31 rfl rfl (by decide) ?_
  refine wp_iload_n (pc := 34) (i := 1) dX7_withOf_34 rfl rfl ?_
  refine wp_bipush (pc := 35) (v := nI 38) dX7_withOf_35 rfl ?_
  first | (with_reducible show WP _ _ _ _ _ _ (Value.int (nI _) :: Value.int (nI _) :: _) _; refine wp_iaddN (pc := 37) dX7_withOf_37 ?_) | refine wp_iadd (pc := 37) dX7_withOf_37 ?_
  refine wp_iload_n (pc := 38) (i := 2) dX7_withOf_38 rfl rfl ?_
  first | (with_reducible show WP _ _ _ _ _ _ (Value.int (nI _) :: Value.int (nI _) :: _) _; refine wp_iaddN (pc := 39) dX7_withOf_39 ?_) | refine wp_iadd (pc := 39) dX7_withOf_39 ?_
  first | (with_reducible show WP _ _ _ _ _ _ (Value.int (nI _) :: _) _; refine wp_ialdN (pc := 40) dX7_withOf_40 rfl (by omega) (by first | exact w1 _ (by omega) | exact w2 _ _ (by omega) | rfl) ?_) | refine wp_iald (pc := 40) dX7_withOf_40 rfl (by assumption) rfl ?_
  refine wp_aload_n (pc := 41) (i := 0) dX7_withOf_41 rfl rfl ?_
  refine wp_gfr (pc := 42) fk_X7_7 dX7_withOf_42 rfl rfl (by decide) ?_
  refine wp_iload_n (pc := 45) (i := 1) dX7_withOf_45 rfl rfl ?_
  refine wp_iconst (pc := 46) (v := nI 4) dX7_withOf_46 rfl ?_
  first | (with_reducible show WP _ _ _ _ _ _ (Value.int (nI _) :: Value.int (nI _) :: _) _; refine wp_iaddN (pc := 47) dX7_withOf_47 ?_) | refine wp_iadd (pc := 47) dX7_withOf_47 ?_
  first | (with_reducible show WP _ _ _ _ _ _ (Value.int (nI _) :: _) _; refine wp_ialdN (pc := 48) dX7_withOf_48 rfl (by omega) (by first | exact w1 _ (by omega) | exact w2 _ _ (by omega) | rfl) ?_) | refine wp_iald (pc := 48) dX7_withOf_48 rfl (by assumption) rfl ?_
  first | (with_reducible show WP _ _ _ _ _ _ (Value.int (nI _) :: Value.int (nI _) :: _) _; refine wp_imulN (pc := 49) dX7_withOf_49 ?_) | refine wp_imul (pc := 49) dX7_withOf_49 ?_
  first | (with_reducible show WP _ _ _ _ _ _ (Value.int (nI _) :: Value.int (nI _) :: _) _; refine wp_iaddN (pc := 50) dX7_withOf_50 ?_) | refine wp_iadd (pc := 50) dX7_withOf_50 ?_
  refine wp_aload_n (pc := 51) (i := 0) dX7_withOf_51 rfl rfl ?_
  refine wp_gfr (pc := 52) fk_X7_7 dX7_withOf_52 rfl rfl (by decide) ?_
  refine wp_iload_n (pc := 55) (i := 1) dX7_withOf_55 rfl rfl ?_
  refine wp_iconst (pc := 56) (v := nI 0) dX7_withOf_56 rfl ?_
  first | (with_reducible show WP _ _ _ _ _ _ (Value.int (nI _) :: Value.int (nI _) :: _) _; refine wp_iaddN (pc := 57) dX7_withOf_57 ?_) | refine wp_iadd (pc := 57) dX7_withOf_57 ?_
  first | (with_reducible show WP _ _ _ _ _ _ (Value.int (nI _) :: _) _; refine wp_ialdN (pc := 58) dX7_withOf_58 rfl (by omega) (by first | exact w1 _ (by omega) | exact w2 _ _ (by omega) | rfl) ?_) | refine wp_iald (pc := 58) dX7_withOf_58 rfl (by assumption) rfl ?_
  first | (with_reducible show WP _ _ _ _ _ _ (Value.int (nI _) :: Value.int (nI _) :: _) _; refine wp_iremN (pc := 59) dX7_withOf_59 (by omega) (by omega) (by omega) ?_) | refine wp_irem (pc := 59) dX7_withOf_59 (by first | assumption | decide) ?_
  refine wp_iret (pc := 60) dX7_withOf_60 rfl ?_
  rotate_left
  refine wp_ldc (pc := 14) kn_X7_144 dX7_withOf_14 ?_
  refine wp_goto (pc := 16) (tgt := 60) dX7_withOf_16 (by decide) ?_
  refine wp_iret (pc := 60) dX7_withOf_60 rfl ?_
  rotate_left
  · rw [wt_some (by omega)] at k; exact k
  · rw [wt_none (by omega)] at k; exact k
theorem sp7_isLost {g : Nat} {l : Bool} {K : Int32 → Hp → Prop} (hR : RW h b T) (hO : OKT T) (hb : b + 56 ≤ 1568) (hg : g < T 1) (hl : lz T g (T 1) = l) (k : K (bI l) h) : Call G (d + 1) mX7_isLost [.ref 89, .int (nI b), .int (nI g)] h (pI K) := by
  obtain ⟨o0, o1, o2, o3, o4, o5, o6, o7, o8⟩ := id hO
  subst hl
  obtain ⟨-, g1, g2, g3, g4, g5⟩ := o7 g hg
  have p0 := o5 (by omega)
  have w1 : ∀ k, k < 56 → h 90 (b + k) = nI (T k) := hR
  have w2 : ∀ k g, k + g < 56 → h 90 (b + k + g) = nI (T (k + g)) := fun k g hk => by rw [Nat.add_assoc]; exact hR _ hk
  have bz : ∀ x : Bool, bI x = nI (if x then 1 else 0) := fun x => by cases x <;> rfl
  have loop : ∀ m i, i + m = T 1 → WP G (d + 1) mX7_isLost (pI K) 13 [some (.ref 89), some (.int (nI b)), some (.int (nI g)), some (.int (oI (wt T 0 g))), some (.int (bI (lz T g i))), some (.int (nI i))] [] h := by
    intro m
    induction m with
    | zero =>
      intro i him
      refine wp_iload (pc := 13) (i := 5) dX7_isLost_13 rfl ?_
      refine wp_aload_n (pc := 15) (i := 0) dX7_isLost_15 rfl rfl ?_
      refine wp_gfr (pc := 16) fk_X7_7 dX7_isLost_16 rfl rfl (by decide) ?_
      refine wp_iload_n (pc := 19) (i := 1) dX7_isLost_19 rfl rfl ?_
      refine wp_iconst (pc := 20) (v := nI 1) dX7_isLost_20 rfl ?_
      first | (with_reducible show WP _ _ _ _ _ _ (Value.int (nI _) :: Value.int (nI _) :: _) _; refine wp_iaddN (pc := 21) dX7_isLost_21 ?_) | refine wp_iadd (pc := 21) dX7_isLost_21 ?_
      first | (with_reducible show WP _ _ _ _ _ _ (Value.int (nI _) :: _) _; refine wp_ialdN (pc := 22) dX7_isLost_22 rfl (by omega) (by first | exact w1 _ (by omega) | exact w2 _ _ (by omega) | rfl) ?_) | refine wp_iald (pc := 22) dX7_isLost_22 rfl (by assumption) rfl ?_
      first | (with_reducible show WP _ _ _ _ _ _ (Value.int (nI _) :: Value.int (nI _) :: _) _; refine wp_icmp_geN (pc := 23) (tgt := 80) dX7_isLost_23 (by decide) (by omega) (by omega) (fun c23 => ?_) (fun c23 => ?_)) | refine wp_icmp_ge (pc := 23) (tgt := 80) dX7_isLost_23 (by decide) (fun c23 => ?_) (fun c23 => ?_)
      refine wp_iload (pc := 80) (i := 4) dX7_isLost_80 rfl ?_
      refine wp_zret (pc := 82) dX7_isLost_82 rfl (by first | exact Or.inl rfl | exact Or.inr rfl | assumption | exact bI_01 _) ?_
      rotate_left
      rotate_left
      · rw [show i = T 1 by omega]; exact k
      · exact absurd him (by omega)
    | succ m ih =>
      intro i him
      have hh := ih (i + 1) (by omega)
      rw [lz] at hh
      rcases hw : wt T 0 g with _ | c
      · rw [hw] at hh
        simp only [Option.isSome_none, Bool.and_false, Bool.false_and, Bool.or_false] at hh
        rcases hz : lz T g i with _ | _
        · rw [hz] at hh
          refine wp_iload (pc := 13) (i := 5) dX7_isLost_13 rfl ?_
          refine wp_aload_n (pc := 15) (i := 0) dX7_isLost_15 rfl rfl ?_
          refine wp_gfr (pc := 16) fk_X7_7 dX7_isLost_16 rfl rfl (by decide) ?_
          refine wp_iload_n (pc := 19) (i := 1) dX7_isLost_19 rfl rfl ?_
          refine wp_iconst (pc := 20) (v := nI 1) dX7_isLost_20 rfl ?_
          first | (with_reducible show WP _ _ _ _ _ _ (Value.int (nI _) :: Value.int (nI _) :: _) _; refine wp_iaddN (pc := 21) dX7_isLost_21 ?_) | refine wp_iadd (pc := 21) dX7_isLost_21 ?_
          first | (with_reducible show WP _ _ _ _ _ _ (Value.int (nI _) :: _) _; refine wp_ialdN (pc := 22) dX7_isLost_22 rfl (by omega) (by first | exact w1 _ (by omega) | exact w2 _ _ (by omega) | rfl) ?_) | refine wp_iald (pc := 22) dX7_isLost_22 rfl (by assumption) rfl ?_
          first | (with_reducible show WP _ _ _ _ _ _ (Value.int (nI _) :: Value.int (nI _) :: _) _; refine wp_icmp_geN (pc := 23) (tgt := 80) dX7_isLost_23 (by decide) (by omega) (by omega) (fun c23 => ?_) (fun c23 => ?_)) | refine wp_icmp_ge (pc := 23) (tgt := 80) dX7_isLost_23 (by decide) (fun c23 => ?_) (fun c23 => ?_)
          rotate_left
          refine wp_iload (pc := 26) (i := 4) dX7_isLost_26 rfl ?_
          first | (with_reducible show WP _ _ _ _ _ _ (Value.int (bI _) :: _) _; refine wp_if_neB (pc := 28) (tgt := 67) dX7_isLost_28 (by decide) (fun c28 => ?_) (fun c28 => ?_)) | (with_reducible show WP _ _ _ _ _ _ (Value.int (nI _) :: _) _; refine wp_if_neN (pc := 28) (tgt := 67) dX7_isLost_28 (by decide) (by omega) (fun c28 => ?_) (fun c28 => ?_)) | refine wp_if_ne (pc := 28) (tgt := 67) dX7_isLost_28 (by decide) (fun c28 => ?_) (fun c28 => ?_)
          rotate_left
          refine wp_aload_n (pc := 31) (i := 0) dX7_isLost_31 rfl rfl ?_
          refine wp_gfr (pc := 32) fk_X7_7 dX7_isLost_32 rfl rfl (by decide) ?_
          refine wp_iload_n (pc := 35) (i := 1) dX7_isLost_35 rfl rfl ?_
          refine wp_bipush (pc := 36) (v := nI 50) dX7_isLost_36 rfl ?_
          first | (with_reducible show WP _ _ _ _ _ _ (Value.int (nI _) :: Value.int (nI _) :: _) _; refine wp_iaddN (pc := 38) dX7_isLost_38 ?_) | refine wp_iadd (pc := 38) dX7_isLost_38 ?_
          refine wp_iload_n (pc := 39) (i := 2) dX7_isLost_39 rfl rfl ?_
          first | (with_reducible show WP _ _ _ _ _ _ (Value.int (nI _) :: Value.int (nI _) :: _) _; refine wp_iaddN (pc := 40) dX7_isLost_40 ?_) | refine wp_iadd (pc := 40) dX7_isLost_40 ?_
          first | (with_reducible show WP _ _ _ _ _ _ (Value.int (nI _) :: _) _; refine wp_ialdN (pc := 41) dX7_isLost_41 rfl (by omega) (by first | exact w1 _ (by omega) | exact w2 _ _ (by omega) | rfl) ?_) | refine wp_iald (pc := 41) dX7_isLost_41 rfl (by assumption) rfl ?_
          refine wp_iload (pc := 42) (i := 5) dX7_isLost_42 rfl ?_
          refine wp_cS2i (pc := 44) lk_X7_148 dX7_isLost_44 rfl (sp7_has (by omega) (by omega) ?_)
          first | (with_reducible show WP _ _ _ _ _ _ (Value.int (bI _) :: _) _; refine wp_if_eqB (pc := 47) (tgt := 71) dX7_isLost_47 (by decide) (fun c47 => ?_) (fun c47 => ?_)) | (with_reducible show WP _ _ _ _ _ _ (Value.int (nI _) :: _) _; refine wp_if_eqN (pc := 47) (tgt := 71) dX7_isLost_47 (by decide) (by omega) (fun c47 => ?_) (fun c47 => ?_)) | refine wp_if_eq (pc := 47) (tgt := 71) dX7_isLost_47 (by decide) (fun c47 => ?_) (fun c47 => ?_)
          refine wp_iconst (pc := 71) (v := nI 0) dX7_isLost_71 rfl ?_
          refine wp_istore (pc := 72) (i := 4) dX7_isLost_72 rfl (by decide) rfl ?_
          dsimp only [List.set_cons_zero, List.set_cons_succ]
          first | refine wp_iincN (pc := 74) (i := 5) (n := 1) dX7_isLost_74 rfl rfl (by decide) rfl ?_ | refine wp_iinc (pc := 74) (i := 5) dX7_isLost_74 rfl rfl rfl (by decide) rfl ?_
          dsimp only [List.set_cons_zero, List.set_cons_succ]
          refine wp_goto (pc := 77) (tgt := 13) dX7_isLost_77 (by decide) ?_
          rotate_left
          refine wp_iload_n (pc := 50) (i := 3) dX7_isLost_50 rfl rfl ?_
          refine wp_ldc (pc := 51) kn_X7_144 dX7_isLost_51 ?_
          first | (with_reducible show WP _ _ _ _ _ _ (Value.int (nI _) :: Value.int (nI _) :: _) _; refine wp_icmp_eqN (pc := 53) (tgt := 71) dX7_isLost_53 (by decide) (by omega) (by omega) (fun c53 => ?_) (fun c53 => ?_)) | refine wp_icmp_eq (pc := 53) (tgt := 71) dX7_isLost_53 (by decide) (fun c53 => ?_) (fun c53 => ?_)
          refine wp_iconst (pc := 71) (v := nI 0) dX7_isLost_71 rfl ?_
          refine wp_istore (pc := 72) (i := 4) dX7_isLost_72 rfl (by decide) rfl ?_
          dsimp only [List.set_cons_zero, List.set_cons_succ]
          first | refine wp_iincN (pc := 74) (i := 5) (n := 1) dX7_isLost_74 rfl rfl (by decide) rfl ?_ | refine wp_iinc (pc := 74) (i := 5) dX7_isLost_74 rfl rfl rfl (by decide) rfl ?_
          dsimp only [List.set_cons_zero, List.set_cons_succ]
          refine wp_goto (pc := 77) (tgt := 13) dX7_isLost_77 (by decide) ?_
          rotate_left
          rotate_left
          · exact absurd c23 (by omega)
          · cases c28
          · exact hh
          · exact hh
          · exact absurd rfl c53
        · rw [hz] at hh
          refine wp_iload (pc := 13) (i := 5) dX7_isLost_13 rfl ?_
          refine wp_aload_n (pc := 15) (i := 0) dX7_isLost_15 rfl rfl ?_
          refine wp_gfr (pc := 16) fk_X7_7 dX7_isLost_16 rfl rfl (by decide) ?_
          refine wp_iload_n (pc := 19) (i := 1) dX7_isLost_19 rfl rfl ?_
          refine wp_iconst (pc := 20) (v := nI 1) dX7_isLost_20 rfl ?_
          first | (with_reducible show WP _ _ _ _ _ _ (Value.int (nI _) :: Value.int (nI _) :: _) _; refine wp_iaddN (pc := 21) dX7_isLost_21 ?_) | refine wp_iadd (pc := 21) dX7_isLost_21 ?_
          first | (with_reducible show WP _ _ _ _ _ _ (Value.int (nI _) :: _) _; refine wp_ialdN (pc := 22) dX7_isLost_22 rfl (by omega) (by first | exact w1 _ (by omega) | exact w2 _ _ (by omega) | rfl) ?_) | refine wp_iald (pc := 22) dX7_isLost_22 rfl (by assumption) rfl ?_
          first | (with_reducible show WP _ _ _ _ _ _ (Value.int (nI _) :: Value.int (nI _) :: _) _; refine wp_icmp_geN (pc := 23) (tgt := 80) dX7_isLost_23 (by decide) (by omega) (by omega) (fun c23 => ?_) (fun c23 => ?_)) | refine wp_icmp_ge (pc := 23) (tgt := 80) dX7_isLost_23 (by decide) (fun c23 => ?_) (fun c23 => ?_)
          rotate_left
          refine wp_iload (pc := 26) (i := 4) dX7_isLost_26 rfl ?_
          first | (with_reducible show WP _ _ _ _ _ _ (Value.int (bI _) :: _) _; refine wp_if_neB (pc := 28) (tgt := 67) dX7_isLost_28 (by decide) (fun c28 => ?_) (fun c28 => ?_)) | (with_reducible show WP _ _ _ _ _ _ (Value.int (nI _) :: _) _; refine wp_if_neN (pc := 28) (tgt := 67) dX7_isLost_28 (by decide) (by omega) (fun c28 => ?_) (fun c28 => ?_)) | refine wp_if_ne (pc := 28) (tgt := 67) dX7_isLost_28 (by decide) (fun c28 => ?_) (fun c28 => ?_)
          refine wp_iconst (pc := 67) (v := nI 1) dX7_isLost_67 rfl ?_
          refine wp_goto (pc := 68) (tgt := 72) dX7_isLost_68 (by decide) ?_
          refine wp_istore (pc := 72) (i := 4) dX7_isLost_72 rfl (by decide) rfl ?_
          dsimp only [List.set_cons_zero, List.set_cons_succ]
          first | refine wp_iincN (pc := 74) (i := 5) (n := 1) dX7_isLost_74 rfl rfl (by decide) rfl ?_ | refine wp_iinc (pc := 74) (i := 5) dX7_isLost_74 rfl rfl rfl (by decide) rfl ?_
          dsimp only [List.set_cons_zero, List.set_cons_succ]
          refine wp_goto (pc := 77) (tgt := 13) dX7_isLost_77 (by decide) ?_
          rotate_left
          rotate_left
          · exact absurd c23 (by omega)
          · exact hh
          · cases c28
      · rw [hw] at hh
        have hc := wt_lt p0.1 hw
        simp only [Option.isSome_some, Bool.and_true] at hh
        rcases hz : lz T g i with _ | _
        · rw [hz, Bool.false_or] at hh
          rcases hv : wt T 0 i with _ | e
          · rw [hv] at hh
            have hh2 : WP G (d + 1) mX7_isLost (pI K) 13 [some (.ref 89), some (.int (nI b)), some (.int (nI g)), some (.int (oI (some c))), some (.int (bI false)), some (.int (nI (i + 1)))] [] h := by
              simpa using hh
            refine wp_iload (pc := 13) (i := 5) dX7_isLost_13 rfl ?_
            refine wp_aload_n (pc := 15) (i := 0) dX7_isLost_15 rfl rfl ?_
            refine wp_gfr (pc := 16) fk_X7_7 dX7_isLost_16 rfl rfl (by decide) ?_
            refine wp_iload_n (pc := 19) (i := 1) dX7_isLost_19 rfl rfl ?_
            refine wp_iconst (pc := 20) (v := nI 1) dX7_isLost_20 rfl ?_
            first | (with_reducible show WP _ _ _ _ _ _ (Value.int (nI _) :: Value.int (nI _) :: _) _; refine wp_iaddN (pc := 21) dX7_isLost_21 ?_) | refine wp_iadd (pc := 21) dX7_isLost_21 ?_
            first | (with_reducible show WP _ _ _ _ _ _ (Value.int (nI _) :: _) _; refine wp_ialdN (pc := 22) dX7_isLost_22 rfl (by omega) (by first | exact w1 _ (by omega) | exact w2 _ _ (by omega) | rfl) ?_) | refine wp_iald (pc := 22) dX7_isLost_22 rfl (by assumption) rfl ?_
            first | (with_reducible show WP _ _ _ _ _ _ (Value.int (nI _) :: Value.int (nI _) :: _) _; refine wp_icmp_geN (pc := 23) (tgt := 80) dX7_isLost_23 (by decide) (by omega) (by omega) (fun c23 => ?_) (fun c23 => ?_)) | refine wp_icmp_ge (pc := 23) (tgt := 80) dX7_isLost_23 (by decide) (fun c23 => ?_) (fun c23 => ?_)
            rotate_left
            refine wp_iload (pc := 26) (i := 4) dX7_isLost_26 rfl ?_
            first | (with_reducible show WP _ _ _ _ _ _ (Value.int (bI _) :: _) _; refine wp_if_neB (pc := 28) (tgt := 67) dX7_isLost_28 (by decide) (fun c28 => ?_) (fun c28 => ?_)) | (with_reducible show WP _ _ _ _ _ _ (Value.int (nI _) :: _) _; refine wp_if_neN (pc := 28) (tgt := 67) dX7_isLost_28 (by decide) (by omega) (fun c28 => ?_) (fun c28 => ?_)) | refine wp_if_ne (pc := 28) (tgt := 67) dX7_isLost_28 (by decide) (fun c28 => ?_) (fun c28 => ?_)
            rotate_left
            refine wp_aload_n (pc := 31) (i := 0) dX7_isLost_31 rfl rfl ?_
            refine wp_gfr (pc := 32) fk_X7_7 dX7_isLost_32 rfl rfl (by decide) ?_
            refine wp_iload_n (pc := 35) (i := 1) dX7_isLost_35 rfl rfl ?_
            refine wp_bipush (pc := 36) (v := nI 50) dX7_isLost_36 rfl ?_
            first | (with_reducible show WP _ _ _ _ _ _ (Value.int (nI _) :: Value.int (nI _) :: _) _; refine wp_iaddN (pc := 38) dX7_isLost_38 ?_) | refine wp_iadd (pc := 38) dX7_isLost_38 ?_
            refine wp_iload_n (pc := 39) (i := 2) dX7_isLost_39 rfl rfl ?_
            first | (with_reducible show WP _ _ _ _ _ _ (Value.int (nI _) :: Value.int (nI _) :: _) _; refine wp_iaddN (pc := 40) dX7_isLost_40 ?_) | refine wp_iadd (pc := 40) dX7_isLost_40 ?_
            first | (with_reducible show WP _ _ _ _ _ _ (Value.int (nI _) :: _) _; refine wp_ialdN (pc := 41) dX7_isLost_41 rfl (by omega) (by first | exact w1 _ (by omega) | exact w2 _ _ (by omega) | rfl) ?_) | refine wp_iald (pc := 41) dX7_isLost_41 rfl (by assumption) rfl ?_
            refine wp_iload (pc := 42) (i := 5) dX7_isLost_42 rfl ?_
            refine wp_cS2i (pc := 44) lk_X7_148 dX7_isLost_44 rfl (sp7_has (by omega) (by omega) ?_)
            first | (with_reducible show WP _ _ _ _ _ _ (Value.int (bI _) :: _) _; refine wp_if_eqB (pc := 47) (tgt := 71) dX7_isLost_47 (by decide) (fun c47 => ?_) (fun c47 => ?_)) | (with_reducible show WP _ _ _ _ _ _ (Value.int (nI _) :: _) _; refine wp_if_eqN (pc := 47) (tgt := 71) dX7_isLost_47 (by decide) (by omega) (fun c47 => ?_) (fun c47 => ?_)) | refine wp_if_eq (pc := 47) (tgt := 71) dX7_isLost_47 (by decide) (fun c47 => ?_) (fun c47 => ?_)
            refine wp_iconst (pc := 71) (v := nI 0) dX7_isLost_71 rfl ?_
            refine wp_istore (pc := 72) (i := 4) dX7_isLost_72 rfl (by decide) rfl ?_
            dsimp only [List.set_cons_zero, List.set_cons_succ]
            first | refine wp_iincN (pc := 74) (i := 5) (n := 1) dX7_isLost_74 rfl rfl (by decide) rfl ?_ | refine wp_iinc (pc := 74) (i := 5) dX7_isLost_74 rfl rfl rfl (by decide) rfl ?_
            dsimp only [List.set_cons_zero, List.set_cons_succ]
            refine wp_goto (pc := 77) (tgt := 13) dX7_isLost_77 (by decide) ?_
            rotate_left
            refine wp_iload_n (pc := 50) (i := 3) dX7_isLost_50 rfl rfl ?_
            refine wp_ldc (pc := 51) kn_X7_144 dX7_isLost_51 ?_
            first | (with_reducible show WP _ _ _ _ _ _ (Value.int (nI _) :: Value.int (nI _) :: _) _; refine wp_icmp_eqN (pc := 53) (tgt := 71) dX7_isLost_53 (by decide) (by omega) (by omega) (fun c53 => ?_) (fun c53 => ?_)) | refine wp_icmp_eq (pc := 53) (tgt := 71) dX7_isLost_53 (by decide) (fun c53 => ?_) (fun c53 => ?_)
            refine wp_iconst (pc := 71) (v := nI 0) dX7_isLost_71 rfl ?_
            refine wp_istore (pc := 72) (i := 4) dX7_isLost_72 rfl (by decide) rfl ?_
            dsimp only [List.set_cons_zero, List.set_cons_succ]
            first | refine wp_iincN (pc := 74) (i := 5) (n := 1) dX7_isLost_74 rfl rfl (by decide) rfl ?_ | refine wp_iinc (pc := 74) (i := 5) dX7_isLost_74 rfl rfl rfl (by decide) rfl ?_
            dsimp only [List.set_cons_zero, List.set_cons_succ]
            refine wp_goto (pc := 77) (tgt := 13) dX7_isLost_77 (by decide) ?_
            rotate_left
            refine wp_aload_n (pc := 56) (i := 0) dX7_isLost_56 rfl rfl ?_
            refine wp_iload_n (pc := 57) (i := 1) dX7_isLost_57 rfl rfl ?_
            refine wp_iload (pc := 58) (i := 5) dX7_isLost_58 rfl ?_
            refine wp_cV2i (pc := 60) lk_X7_145 dX7_isLost_60 rfl rfl rfl (sp7_withOf hR hO hb (by omega) hv ?_)
            refine wp_iload_n (pc := 63) (i := 3) dX7_isLost_63 rfl rfl ?_
            first | (with_reducible show WP _ _ _ _ _ _ (Value.int (nI _) :: Value.int (nI _) :: _) _; refine wp_icmp_neN (pc := 64) (tgt := 71) dX7_isLost_64 (by decide) (by omega) (by omega) (fun c64 => ?_) (fun c64 => ?_)) | refine wp_icmp_ne (pc := 64) (tgt := 71) dX7_isLost_64 (by decide) (fun c64 => ?_) (fun c64 => ?_)
            refine wp_iconst (pc := 71) (v := nI 0) dX7_isLost_71 rfl ?_
            refine wp_istore (pc := 72) (i := 4) dX7_isLost_72 rfl (by decide) rfl ?_
            dsimp only [List.set_cons_zero, List.set_cons_succ]
            first | refine wp_iincN (pc := 74) (i := 5) (n := 1) dX7_isLost_74 rfl rfl (by decide) rfl ?_ | refine wp_iinc (pc := 74) (i := 5) dX7_isLost_74 rfl rfl rfl (by decide) rfl ?_
            dsimp only [List.set_cons_zero, List.set_cons_succ]
            refine wp_goto (pc := 77) (tgt := 13) dX7_isLost_77 (by decide) ?_
            rotate_left
            rotate_left
            · exact absurd c23 (by omega)
            · cases c28
            · exact hh2
            · exact absurd c53 (nI_none (by omega))
            · exact hh2
            · exact absurd (Eq.symm c64) (nI_none (by omega))
          · rw [hv] at hh
            have he := wt_lt p0.1 hv
            refine wp_iload (pc := 13) (i := 5) dX7_isLost_13 rfl ?_
            refine wp_aload_n (pc := 15) (i := 0) dX7_isLost_15 rfl rfl ?_
            refine wp_gfr (pc := 16) fk_X7_7 dX7_isLost_16 rfl rfl (by decide) ?_
            refine wp_iload_n (pc := 19) (i := 1) dX7_isLost_19 rfl rfl ?_
            refine wp_iconst (pc := 20) (v := nI 1) dX7_isLost_20 rfl ?_
            first | (with_reducible show WP _ _ _ _ _ _ (Value.int (nI _) :: Value.int (nI _) :: _) _; refine wp_iaddN (pc := 21) dX7_isLost_21 ?_) | refine wp_iadd (pc := 21) dX7_isLost_21 ?_
            first | (with_reducible show WP _ _ _ _ _ _ (Value.int (nI _) :: _) _; refine wp_ialdN (pc := 22) dX7_isLost_22 rfl (by omega) (by first | exact w1 _ (by omega) | exact w2 _ _ (by omega) | rfl) ?_) | refine wp_iald (pc := 22) dX7_isLost_22 rfl (by assumption) rfl ?_
            first | (with_reducible show WP _ _ _ _ _ _ (Value.int (nI _) :: Value.int (nI _) :: _) _; refine wp_icmp_geN (pc := 23) (tgt := 80) dX7_isLost_23 (by decide) (by omega) (by omega) (fun c23 => ?_) (fun c23 => ?_)) | refine wp_icmp_ge (pc := 23) (tgt := 80) dX7_isLost_23 (by decide) (fun c23 => ?_) (fun c23 => ?_)
            rotate_left
            refine wp_iload (pc := 26) (i := 4) dX7_isLost_26 rfl ?_
            first | (with_reducible show WP _ _ _ _ _ _ (Value.int (bI _) :: _) _; refine wp_if_neB (pc := 28) (tgt := 67) dX7_isLost_28 (by decide) (fun c28 => ?_) (fun c28 => ?_)) | (with_reducible show WP _ _ _ _ _ _ (Value.int (nI _) :: _) _; refine wp_if_neN (pc := 28) (tgt := 67) dX7_isLost_28 (by decide) (by omega) (fun c28 => ?_) (fun c28 => ?_)) | refine wp_if_ne (pc := 28) (tgt := 67) dX7_isLost_28 (by decide) (fun c28 => ?_) (fun c28 => ?_)
            refine wp_iconst (pc := 67) (v := nI 1) dX7_isLost_67 rfl ?_
            refine wp_goto (pc := 68) (tgt := 72) dX7_isLost_68 (by decide) ?_
            refine wp_istore (pc := 72) (i := 4) dX7_isLost_72 rfl (by decide) rfl ?_
            dsimp only [List.set_cons_zero, List.set_cons_succ]
            first | refine wp_iincN (pc := 74) (i := 5) (n := 1) dX7_isLost_74 rfl rfl (by decide) rfl ?_ | refine wp_iinc (pc := 74) (i := 5) dX7_isLost_74 rfl rfl rfl (by decide) rfl ?_
            dsimp only [List.set_cons_zero, List.set_cons_succ]
            refine wp_goto (pc := 77) (tgt := 13) dX7_isLost_77 (by decide) ?_
            rotate_left
            refine wp_aload_n (pc := 31) (i := 0) dX7_isLost_31 rfl rfl ?_
            refine wp_gfr (pc := 32) fk_X7_7 dX7_isLost_32 rfl rfl (by decide) ?_
            refine wp_iload_n (pc := 35) (i := 1) dX7_isLost_35 rfl rfl ?_
            refine wp_bipush (pc := 36) (v := nI 50) dX7_isLost_36 rfl ?_
            first | (with_reducible show WP _ _ _ _ _ _ (Value.int (nI _) :: Value.int (nI _) :: _) _; refine wp_iaddN (pc := 38) dX7_isLost_38 ?_) | refine wp_iadd (pc := 38) dX7_isLost_38 ?_
            refine wp_iload_n (pc := 39) (i := 2) dX7_isLost_39 rfl rfl ?_
            first | (with_reducible show WP _ _ _ _ _ _ (Value.int (nI _) :: Value.int (nI _) :: _) _; refine wp_iaddN (pc := 40) dX7_isLost_40 ?_) | refine wp_iadd (pc := 40) dX7_isLost_40 ?_
            first | (with_reducible show WP _ _ _ _ _ _ (Value.int (nI _) :: _) _; refine wp_ialdN (pc := 41) dX7_isLost_41 rfl (by omega) (by first | exact w1 _ (by omega) | exact w2 _ _ (by omega) | rfl) ?_) | refine wp_iald (pc := 41) dX7_isLost_41 rfl (by assumption) rfl ?_
            refine wp_iload (pc := 42) (i := 5) dX7_isLost_42 rfl ?_
            refine wp_cS2i (pc := 44) lk_X7_148 dX7_isLost_44 rfl (sp7_has (by omega) (by omega) ?_)
            first | (with_reducible show WP _ _ _ _ _ _ (Value.int (bI _) :: _) _; refine wp_if_eqB (pc := 47) (tgt := 71) dX7_isLost_47 (by decide) (fun c47 => ?_) (fun c47 => ?_)) | (with_reducible show WP _ _ _ _ _ _ (Value.int (nI _) :: _) _; refine wp_if_eqN (pc := 47) (tgt := 71) dX7_isLost_47 (by decide) (by omega) (fun c47 => ?_) (fun c47 => ?_)) | refine wp_if_eq (pc := 47) (tgt := 71) dX7_isLost_47 (by decide) (fun c47 => ?_) (fun c47 => ?_)
            refine wp_iconst (pc := 71) (v := nI 0) dX7_isLost_71 rfl ?_
            refine wp_istore (pc := 72) (i := 4) dX7_isLost_72 rfl (by decide) rfl ?_
            dsimp only [List.set_cons_zero, List.set_cons_succ]
            first | refine wp_iincN (pc := 74) (i := 5) (n := 1) dX7_isLost_74 rfl rfl (by decide) rfl ?_ | refine wp_iinc (pc := 74) (i := 5) dX7_isLost_74 rfl rfl rfl (by decide) rfl ?_
            dsimp only [List.set_cons_zero, List.set_cons_succ]
            refine wp_goto (pc := 77) (tgt := 13) dX7_isLost_77 (by decide) ?_
            rotate_left
            refine wp_iload_n (pc := 50) (i := 3) dX7_isLost_50 rfl rfl ?_
            refine wp_ldc (pc := 51) kn_X7_144 dX7_isLost_51 ?_
            first | (with_reducible show WP _ _ _ _ _ _ (Value.int (nI _) :: Value.int (nI _) :: _) _; refine wp_icmp_eqN (pc := 53) (tgt := 71) dX7_isLost_53 (by decide) (by omega) (by omega) (fun c53 => ?_) (fun c53 => ?_)) | refine wp_icmp_eq (pc := 53) (tgt := 71) dX7_isLost_53 (by decide) (fun c53 => ?_) (fun c53 => ?_)
            refine wp_iconst (pc := 71) (v := nI 0) dX7_isLost_71 rfl ?_
            refine wp_istore (pc := 72) (i := 4) dX7_isLost_72 rfl (by decide) rfl ?_
            dsimp only [List.set_cons_zero, List.set_cons_succ]
            first | refine wp_iincN (pc := 74) (i := 5) (n := 1) dX7_isLost_74 rfl rfl (by decide) rfl ?_ | refine wp_iinc (pc := 74) (i := 5) dX7_isLost_74 rfl rfl rfl (by decide) rfl ?_
            dsimp only [List.set_cons_zero, List.set_cons_succ]
            refine wp_goto (pc := 77) (tgt := 13) dX7_isLost_77 (by decide) ?_
            rotate_left
            refine wp_aload_n (pc := 56) (i := 0) dX7_isLost_56 rfl rfl ?_
            refine wp_iload_n (pc := 57) (i := 1) dX7_isLost_57 rfl rfl ?_
            refine wp_iload (pc := 58) (i := 5) dX7_isLost_58 rfl ?_
            rotate_left
            · exact absurd c23 (by omega)
            · cases c28
            · rw [c47, Bool.false_and] at hh; exact hh
            · exact absurd c53 (nI_none (by omega))
            refine wp_cV2i (pc := 60) lk_X7_145 dX7_isLost_60 rfl rfl rfl (sp7_withOf hR hO hb (by omega) hv ?_)
            have hh3 : (e = c → WP G (d + 1) mX7_isLost (pI K) 13 [some (.ref 89), some (.int (nI b)), some (.int (nI g)), some (.int (oI (some c))), some (.int (bI true)), some (.int (nI (i + 1)))] [] h) ∧ (¬ e = c → WP G (d + 1) mX7_isLost (pI K) 13 [some (.ref 89), some (.int (nI b)), some (.int (nI g)), some (.int (oI (some c))), some (.int (bI false)), some (.int (nI (i + 1)))] [] h) := by
              constructor
              · intro z; rw [c47, z] at hh; simpa using hh
              · intro z; rw [c47, decide_eq_false (fun w => z (Option.some.inj w))] at hh; simpa using hh
            show WP _ _ _ _ _ _ [.int (nI e)] _
            refine wp_iload_n (pc := 63) (i := 3) dX7_isLost_63 rfl rfl ?_
            show WP _ _ _ _ _ _ [.int (nI c), .int (nI e)] _
            first | (with_reducible show WP _ _ _ _ _ _ (Value.int (nI _) :: Value.int (nI _) :: _) _; refine wp_icmp_neN (pc := 64) (tgt := 71) dX7_isLost_64 (by decide) (by omega) (by omega) (fun c64 => ?_) (fun c64 => ?_)) | refine wp_icmp_ne (pc := 64) (tgt := 71) dX7_isLost_64 (by decide) (fun c64 => ?_) (fun c64 => ?_)
            refine wp_iconst (pc := 71) (v := nI 0) dX7_isLost_71 rfl ?_
            refine wp_istore (pc := 72) (i := 4) dX7_isLost_72 rfl (by decide) rfl ?_
            dsimp only [List.set_cons_zero, List.set_cons_succ]
            first | refine wp_iincN (pc := 74) (i := 5) (n := 1) dX7_isLost_74 rfl rfl (by decide) rfl ?_ | refine wp_iinc (pc := 74) (i := 5) dX7_isLost_74 rfl rfl rfl (by decide) rfl ?_
            dsimp only [List.set_cons_zero, List.set_cons_succ]
            refine wp_goto (pc := 77) (tgt := 13) dX7_isLost_77 (by decide) ?_
            rotate_left
            refine wp_iconst (pc := 67) (v := nI 1) dX7_isLost_67 rfl ?_
            refine wp_goto (pc := 68) (tgt := 72) dX7_isLost_68 (by decide) ?_
            refine wp_istore (pc := 72) (i := 4) dX7_isLost_72 rfl (by decide) rfl ?_
            dsimp only [List.set_cons_zero, List.set_cons_succ]
            first | refine wp_iincN (pc := 74) (i := 5) (n := 1) dX7_isLost_74 rfl rfl (by decide) rfl ?_ | refine wp_iinc (pc := 74) (i := 5) dX7_isLost_74 rfl rfl rfl (by decide) rfl ?_
            dsimp only [List.set_cons_zero, List.set_cons_succ]
            refine wp_goto (pc := 77) (tgt := 13) dX7_isLost_77 (by decide) ?_
            rotate_left
            · exact hh3.2 c64
            · exact hh3.1 c64
        · rw [hz, Bool.true_or] at hh
          refine wp_iload (pc := 13) (i := 5) dX7_isLost_13 rfl ?_
          refine wp_aload_n (pc := 15) (i := 0) dX7_isLost_15 rfl rfl ?_
          refine wp_gfr (pc := 16) fk_X7_7 dX7_isLost_16 rfl rfl (by decide) ?_
          refine wp_iload_n (pc := 19) (i := 1) dX7_isLost_19 rfl rfl ?_
          refine wp_iconst (pc := 20) (v := nI 1) dX7_isLost_20 rfl ?_
          first | (with_reducible show WP _ _ _ _ _ _ (Value.int (nI _) :: Value.int (nI _) :: _) _; refine wp_iaddN (pc := 21) dX7_isLost_21 ?_) | refine wp_iadd (pc := 21) dX7_isLost_21 ?_
          first | (with_reducible show WP _ _ _ _ _ _ (Value.int (nI _) :: _) _; refine wp_ialdN (pc := 22) dX7_isLost_22 rfl (by omega) (by first | exact w1 _ (by omega) | exact w2 _ _ (by omega) | rfl) ?_) | refine wp_iald (pc := 22) dX7_isLost_22 rfl (by assumption) rfl ?_
          first | (with_reducible show WP _ _ _ _ _ _ (Value.int (nI _) :: Value.int (nI _) :: _) _; refine wp_icmp_geN (pc := 23) (tgt := 80) dX7_isLost_23 (by decide) (by omega) (by omega) (fun c23 => ?_) (fun c23 => ?_)) | refine wp_icmp_ge (pc := 23) (tgt := 80) dX7_isLost_23 (by decide) (fun c23 => ?_) (fun c23 => ?_)
          rotate_left
          refine wp_iload (pc := 26) (i := 4) dX7_isLost_26 rfl ?_
          first | (with_reducible show WP _ _ _ _ _ _ (Value.int (bI _) :: _) _; refine wp_if_neB (pc := 28) (tgt := 67) dX7_isLost_28 (by decide) (fun c28 => ?_) (fun c28 => ?_)) | (with_reducible show WP _ _ _ _ _ _ (Value.int (nI _) :: _) _; refine wp_if_neN (pc := 28) (tgt := 67) dX7_isLost_28 (by decide) (by omega) (fun c28 => ?_) (fun c28 => ?_)) | refine wp_if_ne (pc := 28) (tgt := 67) dX7_isLost_28 (by decide) (fun c28 => ?_) (fun c28 => ?_)
          refine wp_iconst (pc := 67) (v := nI 1) dX7_isLost_67 rfl ?_
          refine wp_goto (pc := 68) (tgt := 72) dX7_isLost_68 (by decide) ?_
          refine wp_istore (pc := 72) (i := 4) dX7_isLost_72 rfl (by decide) rfl ?_
          dsimp only [List.set_cons_zero, List.set_cons_succ]
          first | refine wp_iincN (pc := 74) (i := 5) (n := 1) dX7_isLost_74 rfl rfl (by decide) rfl ?_ | refine wp_iinc (pc := 74) (i := 5) dX7_isLost_74 rfl rfl rfl (by decide) rfl ?_
          dsimp only [List.set_cons_zero, List.set_cons_succ]
          refine wp_goto (pc := 77) (tgt := 13) dX7_isLost_77 (by decide) ?_
          rotate_left
          rotate_left
          · exact absurd c23 (by omega)
          · exact hh
          · cases c28
  refine Call.of (M := mX7_isLost) (n := 3) (by decide +kernel) rfl ?_
  show WP _ _ _ _ 0 [some (.ref 89), some (.int (nI b)), some (.int (nI g)), none, none, none] [] _
  refine wp_aload_n (pc := 0) (i := 0) dX7_isLost_0 rfl rfl ?_
  refine wp_iload_n (pc := 1) (i := 1) dX7_isLost_1 rfl rfl ?_
  refine wp_iload_n (pc := 2) (i := 2) dX7_isLost_2 rfl rfl ?_
  refine wp_cV2i (pc := 3) lk_X7_145 dX7_isLost_3 rfl rfl rfl (sp7_withOf hR hO hb hg rfl ?_)
  refine wp_istore_n (pc := 6) (i := 3) dX7_isLost_6 rfl rfl (by decide) rfl ?_
  dsimp only [List.set_cons_zero, List.set_cons_succ]
  refine wp_iconst (pc := 7) (v := nI 0) dX7_isLost_7 rfl ?_
  refine wp_istore (pc := 8) (i := 4) dX7_isLost_8 rfl (by decide) rfl ?_
  dsimp only [List.set_cons_zero, List.set_cons_succ]
  refine wp_iconst (pc := 10) (v := nI 0) dX7_isLost_10 rfl ?_
  refine wp_istore (pc := 11) (i := 5) dX7_isLost_11 rfl (by decide) rfl ?_
  dsimp only [List.set_cons_zero, List.set_cons_succ]
  rotate_left
  exact loop (T 1) 0 (by omega)
end RTOWN
