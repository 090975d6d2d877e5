theorem kM1_ne {c : Nat} (hc : c < 2 ^ 31) : ¬ kM1 = nI c := fun e => by
  have := congrArg Int32.toInt e
  rw [nI_toInt hc] at this
  have km : kM1.toInt = -1 := by decide
  omega
def vl (B : List Nat) (a : Nat) : Nat → Nat
  | 0 => 0
  | 1 => bv B a - 48
  | _ + 2 => 10 * (bv B a - 48) + bv B (a + 1) - 48
section DREAD2
variable {G : Gt} {d : Nat} {h : Hp} {B : List Nat} {f a : Nat}
theorem sp_sortOf {b : Nat} {K : Int32 → Hp → Prop} (hb : b < 256) (k : K (nI (kol b)) h) : Call G d mX2_sortOf [.int (nI b)] h (pI K) := by
  refine Call.of (M := mX2_sortOf) (n := 0) (by decide +kernel) rfl ?_
  show WP _ _ _ _ 0 [some (.int (nI b))] [] _
  refine wp_iload_n (pc := 0) (i := 0) dX2_sortOf_0 rfl rfl ?_
  by_cases z : b < 110 ∨ 119 < b
  · refine wp_tableOut (pc := 1) (tgt := 66) dX2_sortOf_1 (by rw [nI_toInt (by omega)]; omega) (by decide) ?_
    have : kol b = 0 := by unfold kol; rw [if_neg (by omega), if_neg (by omega), if_neg (by omega), if_neg (by omega), if_neg (by omega)]
    rw [this] at k
    refine wp_iconst (pc := 66) (v := nI 0) dX2_sortOf_66 rfl ?_
    refine wp_iret (pc := 67) dX2_sortOf_67 rfl ?_
    rotate_left
    exact k
  · have : b = 110 ∨ b = 111 ∨ b = 112 ∨ b = 113 ∨ b = 114 ∨ b = 115 ∨ b = 116 ∨ b = 117 ∨ b = 118 ∨ b = 119 := by omega
    rcases this with rfl | rfl | rfl | rfl | rfl | rfl | rfl | rfl | rfl | rfl
    · refine wp_tableIn (pc := 1) (tgt := 62) dX2_sortOf_1 (by decide) (by decide) rfl (by decide) ?_
      refine wp_iconst (pc := 62) (v := nI 4) dX2_sortOf_62 rfl ?_
      refine wp_iret (pc := 63) dX2_sortOf_63 rfl ?_
      rotate_left
      exact k
    · refine wp_tableIn (pc := 1) (tgt := 58) dX2_sortOf_1 (by decide) (by decide) rfl (by decide) ?_
      refine wp_iconst (pc := 58) (v := nI 2) dX2_sortOf_58 rfl ?_
      refine wp_iret (pc := 59) dX2_sortOf_59 rfl ?_
      rotate_left
      exact k
    · refine wp_tableIn (pc := 1) (tgt := 66) dX2_sortOf_1 (by decide) (by decide) rfl (by decide) ?_
      refine wp_iconst (pc := 66) (v := nI 0) dX2_sortOf_66 rfl ?_
      refine wp_iret (pc := 67) dX2_sortOf_67 rfl ?_
      rotate_left
      exact k
    · refine wp_tableIn (pc := 1) (tgt := 66) dX2_sortOf_1 (by decide) (by decide) rfl (by decide) ?_
      refine wp_iconst (pc := 66) (v := nI 0) dX2_sortOf_66 rfl ?_
      refine wp_iret (pc := 67) dX2_sortOf_67 rfl ?_
      rotate_left
      exact k
    · refine wp_tableIn (pc := 1) (tgt := 66) dX2_sortOf_1 (by decide) (by decide) rfl (by decide) ?_
      refine wp_iconst (pc := 66) (v := nI 0) dX2_sortOf_66 rfl ?_
      refine wp_iret (pc := 67) dX2_sortOf_67 rfl ?_
      rotate_left
      exact k
    · refine wp_tableIn (pc := 1) (tgt := 56) dX2_sortOf_1 (by decide) (by decide) rfl (by decide) ?_
      refine wp_iconst (pc := 56) (v := nI 1) dX2_sortOf_56 rfl ?_
      refine wp_iret (pc := 57) dX2_sortOf_57 rfl ?_
      rotate_left
      exact k
    · refine wp_tableIn (pc := 1) (tgt := 60) dX2_sortOf_1 (by decide) (by decide) rfl (by decide) ?_
      refine wp_iconst (pc := 60) (v := nI 3) dX2_sortOf_60 rfl ?_
      refine wp_iret (pc := 61) dX2_sortOf_61 rfl ?_
      rotate_left
      exact k
    · refine wp_tableIn (pc := 1) (tgt := 66) dX2_sortOf_1 (by decide) (by decide) rfl (by decide) ?_
      refine wp_iconst (pc := 66) (v := nI 0) dX2_sortOf_66 rfl ?_
      refine wp_iret (pc := 67) dX2_sortOf_67 rfl ?_
      rotate_left
      exact k
    · refine wp_tableIn (pc := 1) (tgt := 66) dX2_sortOf_1 (by decide) (by decide) rfl (by decide) ?_
      refine wp_iconst (pc := 66) (v := nI 0) dX2_sortOf_66 rfl ?_
      refine wp_iret (pc := 67) dX2_sortOf_67 rfl ?_
      rotate_left
      exact k
    · refine wp_tableIn (pc := 1) (tgt := 64) dX2_sortOf_1 (by decide) (by decide) rfl (by decide) ?_
      refine wp_iconst (pc := 64) (v := nI 5) dX2_sortOf_64 rfl ?_
      refine wp_iret (pc := 65) dX2_sortOf_65 rfl ?_
      rotate_left
      exact k
theorem sp_sortOfM {K : Int32 → Hp → Prop} (k : K (nI 0) h) : Call G d mX2_sortOf [.int kM1] h (pI K) := by
  refine Call.of (M := mX2_sortOf) (n := 0) (by decide +kernel) rfl ?_
  show WP _ _ _ _ 0 [some (.int kM1)] [] _
  refine wp_iload_n (pc := 0) (i := 0) dX2_sortOf_0 rfl rfl ?_
  refine wp_tableOut (pc := 1) (tgt := 66) dX2_sortOf_1 (by decide) (by decide) ?_
  refine wp_iconst (pc := 66) (v := nI 0) dX2_sortOf_66 rfl ?_
  refine wp_iret (pc := 67) dX2_sortOf_67 rfl ?_
  rotate_left
  exact k
theorem sp_takeSort {K : Int32 → Hp → Prop} (hX : RX h B f a) (hB : OB B) (ha : a ≤ B.length) (hf : f ≤ 3) (kB : ¬ f = 0 → K (nI (ko B a)) h)
    (k1 : f = 0 → 0 < ko B a → a + 1 ≤ B.length → ∀ h', RX h' B 0 (a + 1) → (∀ q, q ≠ 13 → h' q = h q) → K (nI (ko B a)) h') (k0 : f = 0 → ko B a = 0 → ∀ h', RX h' B 1 a → (∀ q, q ≠ 13 → h' q = h q) → K (nI (ko B a)) h') : Call G (d + 1) mX2_takeSort [.ref 13] h (pI K) := by
  obtain ⟨⟨b1, b2⟩, x1, x2, x3⟩ := id hX
  have l := hB.1
  have kl := ko_le B a
  refine Call.of (M := mX2_takeSort) (n := 1) (by decide +kernel) rfl ?_
  show WP _ _ _ _ 0 [some (.ref 13), none] [] _
  have rest : (0 < ko B a → a + 1 ≤ B.length) → WP G (d + 1) mX2_takeSort (pI K) 7 [some (.ref 13), none] [.int (nI (ko B a))] h := by
    intro hlen
    refine wp_istore_n (pc := 7) (i := 1) dX2_takeSort_7 rfl rfl (by decide) rfl ?_
    dsimp only [List.set_cons_zero, List.set_cons_succ]
    refine wp_iload_n (pc := 8) (i := 1) dX2_takeSort_8 rfl rfl ?_
    first | (with_reducible show WP _ _ _ _ _ _ (Value.int (bI _) :: _) _; refine wp_if_neB (pc := 9) (tgt := 20) dX2_takeSort_9 (by decide) (fun c9 => ?_) (fun c9 => ?_)) | (with_reducible show WP _ _ _ _ _ _ (Value.int (nI _) :: _) _; refine wp_if_neN (pc := 9) (tgt := 20) dX2_takeSort_9 (by decide) (by omega) (fun c9 => ?_) (fun c9 => ?_)) | refine wp_if_ne (pc := 9) (tgt := 20) dX2_takeSort_9 (by decide) (fun c9 => ?_) (fun c9 => ?_)
    refine wp_aload_n (pc := 20) (i := 0) dX2_takeSort_20 rfl rfl ?_
    refine wp_gfv (pc := 21) fk_X2_29 dX2_takeSort_21 rfl rfl (by first | with_reducible assumption | with_reducible exact hs_same _ _ _ _ | rfl) ?_
    first | (with_reducible show WP _ _ _ _ _ _ (Value.int (bI _) :: _) _; refine wp_if_neB (pc := 24) (tgt := 37) dX2_takeSort_24 (by decide) (fun c24 => ?_) (fun c24 => ?_)) | (with_reducible show WP _ _ _ _ _ _ (Value.int (nI _) :: _) _; refine wp_if_neN (pc := 24) (tgt := 37) dX2_takeSort_24 (by decide) (by omega) (fun c24 => ?_) (fun c24 => ?_)) | refine wp_if_ne (pc := 24) (tgt := 37) dX2_takeSort_24 (by decide) (fun c24 => ?_) (fun c24 => ?_)
    refine wp_iload_n (pc := 37) (i := 1) dX2_takeSort_37 rfl rfl ?_
    refine wp_iret (pc := 38) dX2_takeSort_38 rfl ?_
    rotate_left
    refine wp_aload_n (pc := 27) (i := 0) dX2_takeSort_27 rfl rfl ?_
    refine wp_dup (pc := 28) dX2_takeSort_28 rfl ?_
    refine wp_gfv (pc := 29) fk_X2_26 dX2_takeSort_29 rfl rfl (by first | with_reducible assumption | with_reducible exact hs_same _ _ _ _ | rfl) ?_
    refine wp_iconst (pc := 32) (v := nI 1) dX2_takeSort_32 rfl ?_
    first | (with_reducible show WP _ _ _ _ _ _ (Value.int (nI _) :: Value.int (nI _) :: _) _; refine wp_iaddN (pc := 33) dX2_takeSort_33 ?_) | refine wp_iadd (pc := 33) dX2_takeSort_33 ?_
    refine wp_pf (pc := 34) fp_X2_26 dX2_takeSort_34 rfl rfl rfl rfl ?_
    refine wp_iload_n (pc := 37) (i := 1) dX2_takeSort_37 rfl rfl ?_
    refine wp_iret (pc := 38) dX2_takeSort_38 rfl ?_
    rotate_left
    rotate_left
    · exact kB c24
    · subst c24
      exact k1 rfl (by omega) (hlen (by omega)) _ (rx_at hX) (fun q hq => hs_ne hq)
    · by_cases z : f = 0
      · subst z
        refine wp_aload_n (pc := 12) (i := 0) dX2_takeSort_12 rfl rfl ?_
        refine wp_iconst (pc := 13) (v := nI 1) dX2_takeSort_13 rfl ?_
        refine wp_cV1v (pc := 14) lk_X2_77 dX2_takeSort_14 rfl rfl rfl (sp_fail hX (by omega) (by omega) (fun z => absurd rfl z) (fun _ h' hX' he => ?_))
        refine wp_goto (pc := 17) (tgt := 37) dX2_takeSort_17 (by decide) ?_
        refine wp_iload_n (pc := 37) (i := 1) dX2_takeSort_37 rfl rfl ?_
        refine wp_iret (pc := 38) dX2_takeSort_38 rfl ?_
        rotate_left
        exact k0 rfl c9 h' hX' he
      · refine wp_aload_n (pc := 12) (i := 0) dX2_takeSort_12 rfl rfl ?_
        refine wp_iconst (pc := 13) (v := nI 1) dX2_takeSort_13 rfl ?_
        refine wp_cV1v (pc := 14) lk_X2_77 dX2_takeSort_14 rfl rfl rfl (sp_fail hX hf (by omega) (fun _ => ?_) (fun y => absurd y z))
        refine wp_goto (pc := 17) (tgt := 37) dX2_takeSort_17 (by decide) ?_
        refine wp_iload_n (pc := 37) (i := 1) dX2_takeSort_37 rfl rfl ?_
        refine wp_iret (pc := 38) dX2_takeSort_38 rfl ?_
        rotate_left
        exact kB z
  refine wp_aload_n (pc := 0) (i := 0) dX2_takeSort_0 rfl rfl ?_
  refine wp_cV0i (pc := 1) lk_X2_64 dX2_takeSort_1 rfl rfl rfl ?_
  rotate_left
  refine sp_nextByte hX hB (by omega) (fun b hb hb2 => ?_) (fun hb => ?_)
  · have e : ko B a = kol b := by unfold ko; rw [hb]
    refine wp_cS1i (pc := 4) lk_X2_101 dX2_takeSort_4 rfl (sp_sortOf hb2 ?_)
    rotate_left
    rw [← e]
    exact rest (fun _ => by have := (List.getElem?_eq_some_iff.mp hb).1; omega)
  · have e : ko B a = 0 := by unfold ko; rw [hb]
    refine wp_cS1i (pc := 4) lk_X2_101 dX2_takeSort_4 rfl (sp_sortOfM ?_)
    rotate_left
    rw [← e]
    exact rest (fun z => absurd e (by omega))
theorem sp_takeNumber {lo hi : Int32} {K : Int32 → Hp → Prop} (hX : RX h B f a) (hB : OB B) (ha : a ≤ B.length) (hf : f ≤ 3) (kB : ¬ f = 0 → ∀ x, K x h)
    (k1 : f = 0 → nok B a = false → ∀ x h', RX h' B 1 a → (∀ q, q ≠ 13 → h' q = h q) → K x h')
    (k2 : f = 0 → nok B a = true → ¬ (lo.toInt ≤ (nv B a : Int) ∧ (nv B a : Int) ≤ hi.toInt) → ∀ x h', RX h' B 2 a → (∀ q, q ≠ 13 → h' q = h q) → K x h')
    (k0 : f = 0 → nok B a = true → (lo.toInt ≤ (nv B a : Int) ∧ (nv B a : Int) ≤ hi.toInt) → ∀ h', RX h' B 0 (a + nz B a) → (∀ q, q ≠ 13 → h' q = h q) → K (nI (nv B a)) h') : Call G (d + 1) mX2_takeNumber [.ref 13, .int lo, .int hi] h (pI K) := by
  obtain ⟨⟨b1, b2⟩, x1, x2, x3⟩ := id hX
  have l := hB.1
  refine Call.of (M := mX2_takeNumber) (n := 3) (by decide +kernel) rfl ?_
  show WP _ _ _ _ 0 [some (.ref 13), some (.int lo), some (.int hi), none, none, none] [] _
  have flt : ∀ v L5 j, j ≤ 100 → nok B a = false → (j < 1 ∨ 2 < j) → WP G (d + 1) mX2_takeNumber (pI K) 72 [some (.ref 13), some (.int lo), some (.int hi), some (.int (nI v)), some (.int (nI j)), L5] [] h := by
    intro v L5 j hj hno hc
    have at84 : WP G (d + 1) mX2_takeNumber (pI K) 84 [some (.ref 13), some (.int lo), some (.int hi), some (.int (nI v)), some (.int (nI j)), L5] [] h := by
      by_cases z : f = 0
      · subst z
        refine wp_aload_n (pc := 84) (i := 0) dX2_takeNumber_84 rfl rfl ?_
        refine wp_iconst (pc := 85) (v := nI 1) dX2_takeNumber_85 rfl ?_
        refine wp_cV1v (pc := 86) lk_X2_77 dX2_takeNumber_86 rfl rfl rfl (sp_fail hX (by omega) (by omega) (fun z => absurd rfl z) (fun _ h' hX' he => ?_))
        refine wp_goto (pc := 89) (tgt := 127) dX2_takeNumber_89 (by decide) ?_
        refine wp_iload_n (pc := 127) (i := 3) dX2_takeNumber_127 rfl rfl ?_
        refine wp_iret (pc := 128) dX2_takeNumber_128 rfl ?_
        rotate_left
        exact k1 rfl hno _ h' hX' he
      · refine wp_aload_n (pc := 84) (i := 0) dX2_takeNumber_84 rfl rfl ?_
        refine wp_iconst (pc := 85) (v := nI 1) dX2_takeNumber_85 rfl ?_
        refine wp_cV1v (pc := 86) lk_X2_77 dX2_takeNumber_86 rfl rfl rfl (sp_fail hX hf (by omega) (fun _ => ?_) (fun y => absurd y z))
        refine wp_goto (pc := 89) (tgt := 127) dX2_takeNumber_89 (by decide) ?_
        refine wp_iload_n (pc := 127) (i := 3) dX2_takeNumber_127 rfl rfl ?_
        refine wp_iret (pc := 128) dX2_takeNumber_128 rfl ?_
        rotate_left
        exact kB z _
    refine wp_iload (pc := 72) (i := 4) dX2_takeNumber_72 rfl ?_
    refine wp_iconst (pc := 74) (v := nI 1) dX2_takeNumber_74 rfl ?_
    first | (with_reducible show WP _ _ _ _ _ _ (Value.int (nI _) :: Value.int (nI _) :: _) _; refine wp_icmp_ltN (pc := 75) (tgt := 84) dX2_takeNumber_75 (by decide) (by omega) (by omega) (fun c75 => ?_) (fun c75 => ?_)) | refine wp_icmp_lt (pc := 75) (tgt := 84) dX2_takeNumber_75 (by decide) (fun c75 => ?_) (fun c75 => ?_)
    rotate_left
    refine wp_iload (pc := 78) (i := 4) dX2_takeNumber_78 rfl ?_
    refine wp_iconst (pc := 80) (v := nI 2) dX2_takeNumber_80 rfl ?_
    first | (with_reducible show WP _ _ _ _ _ _ (Value.int (nI _) :: Value.int (nI _) :: _) _; refine wp_icmp_leN (pc := 81) (tgt := 92) dX2_takeNumber_81 (by decide) (by omega) (by omega) (fun c81 => ?_) (fun c81 => ?_)) | refine wp_icmp_le (pc := 81) (tgt := 92) dX2_takeNumber_81 (by decide) (fun c81 => ?_) (fun c81 => ?_)
    rotate_left
    rotate_left
    · exact at84
    · exact absurd c81 (by omega)
    · exact at84
  have fin : nok B a = true → ∀ L5, WP G (d + 1) mX2_takeNumber (pI K) 72 [some (.ref 13), some (.int lo), some (.int hi), some (.int (nI (nv B a))), some (.int (nI (nz B a))), L5] [] h := by
    intro hok L5
    obtain ⟨n1, n2, n3, n4⟩ := nv_lt hok
    have e : (nI (nv B a)).toInt = (nv B a : Int) := nI_toInt (by omega)
    refine wp_iload (pc := 72) (i := 4) dX2_takeNumber_72 rfl ?_
    refine wp_iconst (pc := 74) (v := nI 1) dX2_takeNumber_74 rfl ?_
    first | (with_reducible show WP _ _ _ _ _ _ (Value.int (nI _) :: Value.int (nI _) :: _) _; refine wp_icmp_ltN (pc := 75) (tgt := 84) dX2_takeNumber_75 (by decide) (by omega) (by omega) (fun c75 => ?_) (fun c75 => ?_)) | refine wp_icmp_lt (pc := 75) (tgt := 84) dX2_takeNumber_75 (by decide) (fun c75 => ?_) (fun c75 => ?_)
    rotate_left
    refine wp_iload (pc := 78) (i := 4) dX2_takeNumber_78 rfl ?_
    refine wp_iconst (pc := 80) (v := nI 2) dX2_takeNumber_80 rfl ?_
    first | (with_reducible show WP _ _ _ _ _ _ (Value.int (nI _) :: Value.int (nI _) :: _) _; refine wp_icmp_leN (pc := 81) (tgt := 92) dX2_takeNumber_81 (by decide) (by omega) (by omega) (fun c81 => ?_) (fun c81 => ?_)) | refine wp_icmp_le (pc := 81) (tgt := 92) dX2_takeNumber_81 (by decide) (fun c81 => ?_) (fun c81 => ?_)
    refine wp_iload_n (pc := 92) (i := 3) dX2_takeNumber_92 rfl rfl ?_
    refine wp_iload_n (pc := 93) (i := 1) dX2_takeNumber_93 rfl rfl ?_
    refine wp_iload_n (pc := 94) (i := 2) dX2_takeNumber_94 rfl rfl ?_
    refine wp_cS3i (pc := 95) lk_X2_105 dX2_takeNumber_95 rfl (sp_within ?_)
    rotate_left
    rotate_left
    · exact absurd c75 (by omega)
    · rw [e]
      first | (with_reducible show WP _ _ _ _ _ _ (Value.int (bI _) :: _) _; refine wp_if_neB (pc := 98) (tgt := 109) dX2_takeNumber_98 (by decide) (fun c98 => ?_) (fun c98 => ?_)) | (with_reducible show WP _ _ _ _ _ _ (Value.int (nI _) :: _) _; refine wp_if_neN (pc := 98) (tgt := 109) dX2_takeNumber_98 (by decide) (by omega) (fun c98 => ?_) (fun c98 => ?_)) | refine wp_if_ne (pc := 98) (tgt := 109) dX2_takeNumber_98 (by decide) (fun c98 => ?_) (fun c98 => ?_)
      refine wp_aload_n (pc := 109) (i := 0) dX2_takeNumber_109 rfl rfl ?_
      refine wp_gfv (pc := 110) fk_X2_29 dX2_takeNumber_110 rfl rfl (by first | with_reducible assumption | with_reducible exact hs_same _ _ _ _ | rfl) ?_
      first | (with_reducible show WP _ _ _ _ _ _ (Value.int (bI _) :: _) _; refine wp_if_neB (pc := 113) (tgt := 127) dX2_takeNumber_113 (by decide) (fun c113 => ?_) (fun c113 => ?_)) | (with_reducible show WP _ _ _ _ _ _ (Value.int (nI _) :: _) _; refine wp_if_neN (pc := 113) (tgt := 127) dX2_takeNumber_113 (by decide) (by omega) (fun c113 => ?_) (fun c113 => ?_)) | refine wp_if_ne (pc := 113) (tgt := 127) dX2_takeNumber_113 (by decide) (fun c113 => ?_) (fun c113 => ?_)
      refine wp_iload_n (pc := 127) (i := 3) dX2_takeNumber_127 rfl rfl ?_
      refine wp_iret (pc := 128) dX2_takeNumber_128 rfl ?_
      rotate_left
      refine wp_aload_n (pc := 116) (i := 0) dX2_takeNumber_116 rfl rfl ?_
      refine wp_dup (pc := 117) dX2_takeNumber_117 rfl ?_
      refine wp_gfv (pc := 118) fk_X2_26 dX2_takeNumber_118 rfl rfl (by first | with_reducible assumption | with_reducible exact hs_same _ _ _ _ | rfl) ?_
      refine wp_iload (pc := 121) (i := 4) dX2_takeNumber_121 rfl ?_
      first | (with_reducible show WP _ _ _ _ _ _ (Value.int (nI _) :: Value.int (nI _) :: _) _; refine wp_iaddN (pc := 123) dX2_takeNumber_123 ?_) | refine wp_iadd (pc := 123) dX2_takeNumber_123 ?_
      refine wp_pf (pc := 124) fp_X2_26 dX2_takeNumber_124 rfl rfl rfl rfl ?_
      refine wp_iload_n (pc := 127) (i := 3) dX2_takeNumber_127 rfl rfl ?_
      refine wp_iret (pc := 128) dX2_takeNumber_128 rfl ?_
      rotate_left
      rotate_left
      · exact kB c113 _
      · subst c113
        exact k0 rfl hok (of_decide_eq_true c98) _ (rx_at hX) (fun q hq => hs_ne hq)
      · have c98 := of_decide_eq_false c98
        by_cases z : f = 0
        · subst z
          refine wp_aload_n (pc := 101) (i := 0) dX2_takeNumber_101 rfl rfl ?_
          refine wp_iconst (pc := 102) (v := nI 2) dX2_takeNumber_102 rfl ?_
          refine wp_cV1v (pc := 103) lk_X2_77 dX2_takeNumber_103 rfl rfl rfl (sp_fail hX (by omega) (by omega) (fun z => absurd rfl z) (fun _ h' hX' he => ?_))
          refine wp_goto (pc := 106) (tgt := 127) dX2_takeNumber_106 (by decide) ?_
          refine wp_iload_n (pc := 127) (i := 3) dX2_takeNumber_127 rfl rfl ?_
          refine wp_iret (pc := 128) dX2_takeNumber_128 rfl ?_
          rotate_left
          exact k2 rfl hok c98 _ h' hX' he
        · refine wp_aload_n (pc := 101) (i := 0) dX2_takeNumber_101 rfl rfl ?_
          refine wp_iconst (pc := 102) (v := nI 2) dX2_takeNumber_102 rfl ?_
          refine wp_cV1v (pc := 103) lk_X2_77 dX2_takeNumber_103 rfl rfl rfl (sp_fail hX hf (by omega) (fun _ => ?_) (fun y => absurd y z))
          refine wp_goto (pc := 106) (tgt := 127) dX2_takeNumber_106 (by decide) ?_
          refine wp_iload_n (pc := 127) (i := 3) dX2_takeNumber_127 rfl rfl ?_
          refine wp_iret (pc := 128) dX2_takeNumber_128 rfl ?_
          rotate_left
          exact kB z _
    · exact absurd c81 (by omega)
  have ext : ∀ j, j ≤ 100 → (∀ i, i < j → fg B (a + i) = true) → fg B (a + j) = false → ∀ L5, WP G (d + 1) mX2_takeNumber (pI K) 72 [some (.ref 13), some (.int lo), some (.int hi), some (.int (nI (vl B a j))), some (.int (nI j)), L5] [] h := by
    intro j hj h1 h2 L5
    by_cases z0 : j = 0
    · subst z0
      rw [Nat.add_zero] at h2
      exact flt _ L5 0 (by omega) (by rw [nok, h2]; rfl) (by omega)
    have f0 := h1 0 (by omega)
    rw [Nat.add_zero] at f0
    by_cases z1 : j = 1
    · subst z1
      have := fin (by rw [nok, f0, h2]; rfl) L5
      rw [nv, nz, h2] at this
      exact this
    have f1 := h1 1 (by omega)
    by_cases z2 : j = 2
    · subst z2
      have := fin (by rw [nok, f0, f1, h2]; rfl) L5
      rw [nv, nz, f1] at this
      exact this
    · have f2 := h1 2 (by omega)
      exact flt _ L5 j hj (by rw [nok, f0, f1, f2]; rfl) (by omega)
  have loop : ∀ m j, j + m = 101 → a + j ≤ B.length → (∀ i, i < j → fg B (a + i) = true) → WP G (d + 1) mX2_takeNumber (pI K) 11 [some (.ref 13), some (.int lo), some (.int hi), some (.int (nI (vl B a j))), some (.int (nI j)), some (.int (nI (a + j)))] [] h := by
    intro m
    induction m with
    | zero => intro j hjm hl; omega
    | succ m ih =>
      intro j hjm hl h1
      by_cases z : a + j < B.length
      · have q : B[a + j]? = some B[a + j] := List.getElem?_eq_getElem z
        have e := b2 (a + j) _ q
        have b256 := hB.2 _ _ q
        have fe := fg_at q
        have ve := bv_at q
        generalize B[a + j] = b at *
        have bn := btw_nI (j := b) (a := 48) (b := 57) (by omega)
        refine wp_iload (pc := 11) (i := 5) dX2_takeNumber_11 rfl ?_
        refine wp_aload_n (pc := 13) (i := 0) dX2_takeNumber_13 rfl rfl ?_
        refine wp_gfv (pc := 14) fk_X2_22 dX2_takeNumber_14 rfl rfl (by first | with_reducible assumption | with_reducible exact hs_same _ _ _ _ | rfl) ?_
        first | (with_reducible show WP _ _ _ _ _ _ (Value.int (nI _) :: Value.int (nI _) :: _) _; refine wp_icmp_geN (pc := 17) (tgt := 72) dX2_takeNumber_17 (by decide) (by omega) (by omega) (fun c17 => ?_) (fun c17 => ?_)) | refine wp_icmp_ge (pc := 17) (tgt := 72) dX2_takeNumber_17 (by decide) (fun c17 => ?_) (fun c17 => ?_)
        rotate_left
        refine wp_aload_n (pc := 20) (i := 0) dX2_takeNumber_20 rfl rfl ?_
        refine wp_gfr (pc := 21) fk_X2_18 dX2_takeNumber_21 rfl rfl (by decide) ?_
        refine wp_iload (pc := 24) (i := 5) dX2_takeNumber_24 rfl ?_
        first | (with_reducible show WP _ _ _ _ _ _ (Value.int (nI _) :: _) _; refine wp_ialdN (pc := 26) dX2_takeNumber_26 rfl (by omega) (by first | with_reducible assumption | with_reducible exact hs_same _ _ _ _ | rfl) ?_) | refine wp_iald (pc := 26) dX2_takeNumber_26 rfl (by assumption) rfl ?_
        refine wp_bipush (pc := 27) (v := nI 48) dX2_takeNumber_27 rfl ?_
        refine wp_bipush (pc := 29) (v := nI 57) dX2_takeNumber_29 rfl ?_
        refine wp_cS3i (pc := 31) lk_X2_105 dX2_takeNumber_31 rfl (sp_btw (by decide) (by decide) ?_)
        rotate_left
        · exact absurd c17 (by omega)
        rw [bn, ← fe]
        refine wp_if_eqB (pc := 34) (tgt := 72) dX2_takeNumber_34 (by decide) (fun c34 => ?_) (fun c34 => ?_)
        · exact ext j (by omega) h1 c34 _
        · rw [fe] at c34
          have c34' := of_decide_eq_true c34
          have nx := ih (j + 1) (by omega) (by omega) (fun i hi => by
            by_cases y : i = j
            · subst y; rw [fe]; exact c34
            · exact h1 i (by omega))
          by_cases y0 : j = 0
          · subst y0
            have v1 : vl B a 1 = 10 * 0 + b - 48 := by show bv B a - 48 = _; rw [Nat.add_zero] at ve; rw [ve]; omega
            rw [v1] at nx
            show WP G (d + 1) mX2_takeNumber (pI K) 37 [some (.ref 13), some (.int lo), some (.int hi), some (.int (nI 0)), some (.int (nI 0)), some (.int (nI (a + 0)))] [] h
            refine wp_iload (pc := 37) (i := 4) dX2_takeNumber_37 rfl ?_
            refine wp_iconst (pc := 39) (v := nI 2) dX2_takeNumber_39 rfl ?_
            first | (with_reducible show WP _ _ _ _ _ _ (Value.int (nI _) :: Value.int (nI _) :: _) _; refine wp_icmp_geN (pc := 40) (tgt := 61) dX2_takeNumber_40 (by decide) (by omega) (by omega) (fun c40 => ?_) (fun c40 => ?_)) | refine wp_icmp_ge (pc := 40) (tgt := 61) dX2_takeNumber_40 (by decide) (fun c40 => ?_) (fun c40 => ?_)
            rotate_left
            refine wp_bipush (pc := 43) (v := nI 10) dX2_takeNumber_43 rfl ?_
            refine wp_iload_n (pc := 45) (i := 3) dX2_takeNumber_45 rfl rfl ?_
            first | (with_reducible show WP _ _ _ _ _ _ (Value.int (nI _) :: Value.int (nI _) :: _) _; refine wp_imulN (pc := 46) dX2_takeNumber_46 ?_) | refine wp_imul (pc := 46) dX2_takeNumber_46 ?_
            refine wp_aload_n (pc := 47) (i := 0) dX2_takeNumber_47 rfl rfl ?_
            refine wp_gfr (pc := 48) fk_X2_18 dX2_takeNumber_48 rfl rfl (by decide) ?_
            refine wp_iload (pc := 51) (i := 5) dX2_takeNumber_51 rfl ?_
            first | (with_reducible show WP _ _ _ _ _ _ (Value.int (nI _) :: _) _; refine wp_ialdN (pc := 53) dX2_takeNumber_53 rfl (by omega) (by first | with_reducible assumption | with_reducible exact hs_same _ _ _ _ | rfl) ?_) | refine wp_iald (pc := 53) dX2_takeNumber_53 rfl (by assumption) rfl ?_
            first | (with_reducible show WP _ _ _ _ _ _ (Value.int (nI _) :: Value.int (nI _) :: _) _; refine wp_iaddN (pc := 54) dX2_takeNumber_54 ?_) | refine wp_iadd (pc := 54) dX2_takeNumber_54 ?_
            refine wp_bipush (pc := 55) (v := nI 48) dX2_takeNumber_55 rfl ?_
            first | (with_reducible show WP _ _ _ _ _ _ (Value.int (nI _) :: Value.int (nI _) :: _) _; refine wp_isubN (pc := 57) dX2_takeNumber_57 (by omega) ?_) | refine wp_isub (pc := 57) dX2_takeNumber_57 ?_
            refine wp_goto (pc := 58) (tgt := 62) dX2_takeNumber_58 (by decide) ?_
            refine wp_istore_n (pc := 62) (i := 3) dX2_takeNumber_62 rfl rfl (by decide) rfl ?_
            dsimp only [List.set_cons_zero, List.set_cons_succ]
            first | refine wp_iincN (pc := 63) (i := 4) (n := 1) dX2_takeNumber_63 rfl rfl (by decide) rfl ?_ | refine wp_iinc (pc := 63) (i := 4) dX2_takeNumber_63 rfl rfl rfl (by decide) rfl ?_
            dsimp only [List.set_cons_zero, List.set_cons_succ]
            first | refine wp_iincN (pc := 66) (i := 5) (n := 1) dX2_takeNumber_66 rfl rfl (by decide) rfl ?_ | refine wp_iinc (pc := 66) (i := 5) dX2_takeNumber_66 rfl rfl rfl (by decide) rfl ?_
            dsimp only [List.set_cons_zero, List.set_cons_succ]
            refine wp_goto (pc := 69) (tgt := 11) dX2_takeNumber_69 (by decide) ?_
            rotate_left
            · exact absurd c40 (by decide)
            · exact nx
          · by_cases y1 : j = 1
            · subst y1
              have v1 : vl B a 2 = 10 * vl B a 1 + b - 48 := by show 10 * (bv B a - 48) + bv B (a + 1) - 48 = 10 * (bv B a - 48) + b - 48; rw [ve]
              rw [v1] at nx
              refine wp_iload (pc := 37) (i := 4) dX2_takeNumber_37 rfl ?_
              refine wp_iconst (pc := 39) (v := nI 2) dX2_takeNumber_39 rfl ?_
              first | (with_reducible show WP _ _ _ _ _ _ (Value.int (nI _) :: Value.int (nI _) :: _) _; refine wp_icmp_geN (pc := 40) (tgt := 61) dX2_takeNumber_40 (by decide) (by omega) (by omega) (fun c40 => ?_) (fun c40 => ?_)) | refine wp_icmp_ge (pc := 40) (tgt := 61) dX2_takeNumber_40 (by decide) (fun c40 => ?_) (fun c40 => ?_)
              rotate_left
              refine wp_bipush (pc := 43) (v := nI 10) dX2_takeNumber_43 rfl ?_
              refine wp_iload_n (pc := 45) (i := 3) dX2_takeNumber_45 rfl rfl ?_
              first | (with_reducible show WP _ _ _ _ _ _ (Value.int (nI _) :: Value.int (nI _) :: _) _; refine wp_imulN (pc := 46) dX2_takeNumber_46 ?_) | refine wp_imul (pc := 46) dX2_takeNumber_46 ?_
              refine wp_aload_n (pc := 47) (i := 0) dX2_takeNumber_47 rfl rfl ?_
              refine wp_gfr (pc := 48) fk_X2_18 dX2_takeNumber_48 rfl rfl (by decide) ?_
              refine wp_iload (pc := 51) (i := 5) dX2_takeNumber_51 rfl ?_
              first | (with_reducible show WP _ _ _ _ _ _ (Value.int (nI _) :: _) _; refine wp_ialdN (pc := 53) dX2_takeNumber_53 rfl (by omega) (by first | with_reducible assumption | with_reducible exact hs_same _ _ _ _ | rfl) ?_) | refine wp_iald (pc := 53) dX2_takeNumber_53 rfl (by assumption) rfl ?_
              first | (with_reducible show WP _ _ _ _ _ _ (Value.int (nI _) :: Value.int (nI _) :: _) _; refine wp_iaddN (pc := 54) dX2_takeNumber_54 ?_) | refine wp_iadd (pc := 54) dX2_takeNumber_54 ?_
              refine wp_bipush (pc := 55) (v := nI 48) dX2_takeNumber_55 rfl ?_
              first | (with_reducible show WP _ _ _ _ _ _ (Value.int (nI _) :: Value.int (nI _) :: _) _; refine wp_isubN (pc := 57) dX2_takeNumber_57 (by omega) ?_) | refine wp_isub (pc := 57) dX2_takeNumber_57 ?_
              refine wp_goto (pc := 58) (tgt := 62) dX2_takeNumber_58 (by decide) ?_
              refine wp_istore_n (pc := 62) (i := 3) dX2_takeNumber_62 rfl rfl (by decide) rfl ?_
              dsimp only [List.set_cons_zero, List.set_cons_succ]
              first | refine wp_iincN (pc := 63) (i := 4) (n := 1) dX2_takeNumber_63 rfl rfl (by decide) rfl ?_ | refine wp_iinc (pc := 63) (i := 4) dX2_takeNumber_63 rfl rfl rfl (by decide) rfl ?_
              dsimp only [List.set_cons_zero, List.set_cons_succ]
              first | refine wp_iincN (pc := 66) (i := 5) (n := 1) dX2_takeNumber_66 rfl rfl (by decide) rfl ?_ | refine wp_iinc (pc := 66) (i := 5) dX2_takeNumber_66 rfl rfl rfl (by decide) rfl ?_
              dsimp only [List.set_cons_zero, List.set_cons_succ]
              refine wp_goto (pc := 69) (tgt := 11) dX2_takeNumber_69 (by decide) ?_
              rotate_left
              · exact absurd c40 (by decide)
              · exact nx
            · have v1 : vl B a (j + 1) = vl B a j := by
                obtain ⟨jj, rfl⟩ : ∃ jj, j = jj + 2 := ⟨j - 2, by omega⟩
                rfl
              rw [v1] at nx
              refine wp_iload (pc := 37) (i := 4) dX2_takeNumber_37 rfl ?_
              refine wp_iconst (pc := 39) (v := nI 2) dX2_takeNumber_39 rfl ?_
              first | (with_reducible show WP _ _ _ _ _ _ (Value.int (nI _) :: Value.int (nI _) :: _) _; refine wp_icmp_geN (pc := 40) (tgt := 61) dX2_takeNumber_40 (by decide) (by omega) (by omega) (fun c40 => ?_) (fun c40 => ?_)) | refine wp_icmp_ge (pc := 40) (tgt := 61) dX2_takeNumber_40 (by decide) (fun c40 => ?_) (fun c40 => ?_)
              refine wp_iload_n (pc := 61) (i := 3) dX2_takeNumber_61 rfl rfl ?_
              refine wp_istore_n (pc := 62) (i := 3) dX2_takeNumber_62 rfl rfl (by decide) rfl ?_
              dsimp only [List.set_cons_zero, List.set_cons_succ]
              first | refine wp_iincN (pc := 63) (i := 4) (n := 1) dX2_takeNumber_63 rfl rfl (by decide) rfl ?_ | refine wp_iinc (pc := 63) (i := 4) dX2_takeNumber_63 rfl rfl rfl (by decide) rfl ?_
              dsimp only [List.set_cons_zero, List.set_cons_succ]
              first | refine wp_iincN (pc := 66) (i := 5) (n := 1) dX2_takeNumber_66 rfl rfl (by decide) rfl ?_ | refine wp_iinc (pc := 66) (i := 5) dX2_takeNumber_66 rfl rfl rfl (by decide) rfl ?_
              dsimp only [List.set_cons_zero, List.set_cons_succ]
              refine wp_goto (pc := 69) (tgt := 11) dX2_takeNumber_69 (by decide) ?_
              rotate_left
              rotate_left
              · exact nx
              · exact absurd c40 (by omega)
      · refine wp_iload (pc := 11) (i := 5) dX2_takeNumber_11 rfl ?_
        refine wp_aload_n (pc := 13) (i := 0) dX2_takeNumber_13 rfl rfl ?_
        refine wp_gfv (pc := 14) fk_X2_22 dX2_takeNumber_14 rfl rfl (by first | with_reducible assumption | with_reducible exact hs_same _ _ _ _ | rfl) ?_
        first | (with_reducible show WP _ _ _ _ _ _ (Value.int (nI _) :: Value.int (nI _) :: _) _; refine wp_icmp_geN (pc := 17) (tgt := 72) dX2_takeNumber_17 (by decide) (by omega) (by omega) (fun c17 => ?_) (fun c17 => ?_)) | refine wp_icmp_ge (pc := 17) (tgt := 72) dX2_takeNumber_17 (by decide) (fun c17 => ?_) (fun c17 => ?_)
        rotate_left
        rotate_left
        · exact ext j (by omega) h1 (fg_no (by omega)) _
        · exact absurd c17 (by omega)
  refine wp_iconst (pc := 0) (v := nI 0) dX2_takeNumber_0 rfl ?_
  refine wp_istore_n (pc := 1) (i := 3) dX2_takeNumber_1 rfl rfl (by decide) rfl ?_
  dsimp only [List.set_cons_zero, List.set_cons_succ]
  refine wp_iconst (pc := 2) (v := nI 0) dX2_takeNumber_2 rfl ?_
  refine wp_istore (pc := 3) (i := 4) dX2_takeNumber_3 rfl (by decide) rfl ?_
  dsimp only [List.set_cons_zero, List.set_cons_succ]
  refine wp_aload_n (pc := 5) (i := 0) dX2_takeNumber_5 rfl rfl ?_
  refine wp_gfv (pc := 6) fk_X2_26 dX2_takeNumber_6 rfl rfl (by first | with_reducible assumption | with_reducible exact hs_same _ _ _ _ | rfl) ?_
  refine wp_istore (pc := 9) (i := 5) dX2_takeNumber_9 rfl (by decide) rfl ?_
  dsimp only [List.set_cons_zero, List.set_cons_succ]
  rotate_left
  exact loop 101 0 (by omega) ha (fun i hi => absurd hi (by omega))
end DREAD2
