section RACTS2
variable {G : Gt} {d : Nat} {h : Hp} {σ : Sg} {T : Tn}
theorem sr_quarrel {x y n : Int32} {K : Int32 → Hp → Prop} (H : RI h σ) (hO : OKT (gT σ)) (k : ∀ h', RI h' (fQuarrel σ x y n).2 → DS h h' → K (fQuarrel σ x y n).1 h') : Call G (d + 3) mX7_quarrel [.ref 89, .int x, .int y, .int n] h (pI K) := by
  have hR := H.1
  obtain ⟨o0, o1, o2, o3, o4, o5, o6, o7, o8⟩ := id hO
  refine Call.of (M := mX7_quarrel) (n := 0) (by decide +kernel) rfl ?_
  show WP _ _ _ _ 0 [some (.ref 89), some (.int x), some (.int y), some (.int n)] [] _
  refine wp_aload_n (pc := 0) (i := 0) dX7_quarrel_0 rfl rfl ?_
  refine wp_iload_n (pc := 1) (i := 1) dX7_quarrel_1 rfl rfl ?_
  refine wp_iload_n (pc := 2) (i := 2) dX7_quarrel_2 rfl rfl ?_
  refine wp_cV2i (pc := 3) lk_X7_189 dX7_quarrel_3 rfl rfl rfl (sp7_areTwo hR hO ?_)
  first | (with_reducible show WP _ _ _ _ _ _ (Value.int (bI _) :: _) _; refine wp_if_eqB (pc := 6) (tgt := 19) dX7_quarrel_6 (by decide) (fun c6 => ?_) (fun c6 => ?_)) | (with_reducible show WP _ _ _ _ _ _ (Value.int (nI _) :: _) _; refine wp_if_eqN (pc := 6) (tgt := 19) dX7_quarrel_6 (by decide) (by omega) (fun c6 => ?_) (fun c6 => ?_)) | refine wp_if_eq (pc := 6) (tgt := 19) dX7_quarrel_6 (by decide) (fun c6 => ?_) (fun c6 => ?_)
  refine wp_ldc (pc := 19) kn_X7_58 dX7_quarrel_19 ?_
  refine wp_iret (pc := 21) dX7_quarrel_21 rfl ?_
  rotate_left
  refine wp_iload_n (pc := 9) (i := 3) dX7_quarrel_9 rfl rfl ?_
  first | (with_reducible show WP _ _ _ _ _ _ (Value.int (nI _) :: _) _; refine wp_i2lN (pc := 10) dX7_quarrel_10 (by omega) ?_) | refine wp_i2l (pc := 10) dX7_quarrel_10 rfl ?_
  refine wp_lconst (pc := 11) (v := lN 0) dX7_quarrel_11 rfl ?_
  refine wp_lconst (pc := 12) (v := lN 1) dX7_quarrel_12 rfl ?_
  refine wp_cS3i (pc := 13) lk_X7_48 dX7_quarrel_13 rfl (sp7_btw (by decide) (by decide) ?_)
  first | (with_reducible show WP _ _ _ _ _ _ (Value.int (bI _) :: _) _; refine wp_if_neB (pc := 16) (tgt := 22) dX7_quarrel_16 (by decide) (fun c16 => ?_) (fun c16 => ?_)) | (with_reducible show WP _ _ _ _ _ _ (Value.int (nI _) :: _) _; refine wp_if_neN (pc := 16) (tgt := 22) dX7_quarrel_16 (by decide) (by omega) (fun c16 => ?_) (fun c16 => ?_)) | refine wp_if_ne (pc := 16) (tgt := 22) dX7_quarrel_16 (by decide) (fun c16 => ?_) (fun c16 => ?_)
  rotate_left
  refine wp_ldc (pc := 19) kn_X7_58 dX7_quarrel_19 ?_
  refine wp_iret (pc := 21) dX7_quarrel_21 rfl ?_
  rotate_left
  · rw [fQuarrel, c6] at k; exact k h H DS.rf
  rotate_left
  · rw [fQuarrel, c6, c16] at k; exact k h H DS.rf
  rw [fQuarrel, c6, c16] at k
  have c6' : (inN x (gT σ 1) = true ∧ inN y (gT σ 1) = true) ∧ decide (x ≠ y) = true := by
    rw [Bool.and_eq_true, Bool.and_eq_true] at c6; exact c6
  obtain ⟨⟨cx, cy⟩, cn⟩ := c6'
  obtain ⟨g, hg, rfl⟩ := inN_t (by omega) cx
  obtain ⟨o, ho, rfl⟩ := inN_t (by omega) cy
  obtain ⟨m, -, hm, rfl⟩ := btw_t (by decide) c16
  have hgo : g ≠ o := fun q => of_decide_eq_true cn (by rw [q])
  rw [nI_clamp (show g < 2 ^ 31 by omega), nI_clamp (show o < 2 ^ 31 by omega)] at k
  have bg := (o7 g hg).2.2.2.2.2
  have bo := (o7 o ho).2.2.2.2.2
  have eqm : decide (nI m = nI 1) = decide (m = 1) := decide_eq_decide.mpr (nI_eq (by omega) (by decide))
  rw [eqm] at k
  have e13 : h 90 (50 + g) = nI (gT σ (50 + g)) := by have := hR (50 + g) (by omega); rw [Nat.zero_add] at this; exact this
  have fin : ¬ (gT σ (50 + g)).testBit o = decide (m = 1) → WP G (d + 3) mX7_quarrel (pI K) 51 [some (.ref 89), some (.int (nI g)), some (.int (nI o)), some (.int (nI m))] [] h := by
    intro hne
    simp only [Bool.and_self, if_true, hne, if_false] at k
    refine wp_aload_n (pc := 51) (i := 0) dX7_quarrel_51 rfl rfl ?_
    refine wp_cV0v (pc := 52) lk_X7_169 dX7_quarrel_52 rfl rfl rfl (sp7_keepPast hR H.2.2.1 (fun h1 hA1 hR1 hf1 => ?_))
    rotate_left
    have s1 := qrl_lt bg (show o < 6 by omega)
    have s2 := qrl_lt bo (show g < 6 by omega)
    have r1 : h1 90 (50 + g) = nI (gT σ (50 + g)) := by have := hR1 (50 + g) (by omega); rw [Nat.zero_add] at this; exact this
    have r2 : hs h1 90 (50 + g) (nI (gT σ (50 + g) ^^^ 1 * 2 ^ o)) 90 (50 + o) = nI (gT σ (50 + o)) := by
      rw [hs_ix (by omega)]; have := hR1 (50 + o) (by omega); rw [Nat.zero_add] at this; exact this
    have r3 : hs (hs h1 90 (50 + g) (nI (gT σ (50 + g) ^^^ 1 * 2 ^ o))) 90 (50 + o) (nI (gT σ (50 + o) ^^^ 1 * 2 ^ g)) 90 (50 + g) = nI (gT σ (50 + g) ^^^ 1 * 2 ^ o) := by
      rw [hs_ix (by omega), hs_same]
    have z1 := RWup (v := gT σ (50 + g) ^^^ 1 * 2 ^ o) hR1 (show 50 + g < 56 by omega)
    rw [Nat.zero_add] at z1
    have z2 := RWup (v := gT σ (50 + o) ^^^ 1 * 2 ^ g) z1 (show 50 + o < 56 by omega)
    rw [Nat.zero_add] at z2
    have hf2 := (hf1.tr (FA.row (k := 50 + g) (v := nI (gT σ (50 + g) ^^^ 1 * 2 ^ o)) (by omega))).tr (FA.row (k := 50 + o) (v := nI (gT σ (50 + o) ^^^ 1 * 2 ^ g)) (by omega))
    refine wp_aload_n (pc := 55) (i := 0) dX7_quarrel_55 rfl rfl ?_
    refine wp_gfr (pc := 56) fk_X7_7 dX7_quarrel_56 rfl rfl (by decide) ?_
    refine wp_bipush (pc := 59) (v := nI 50) dX7_quarrel_59 rfl ?_
    refine wp_iload_n (pc := 61) (i := 1) dX7_quarrel_61 rfl rfl ?_
    first | (with_reducible show WP _ _ _ _ _ _ (Value.int (nI _) :: Value.int (nI _) :: _) _; refine wp_iaddN (pc := 62) dX7_quarrel_62 ?_) | refine wp_iadd (pc := 62) dX7_quarrel_62 ?_
    refine wp_dup2 (pc := 63) dX7_quarrel_63 rfl rfl ?_
    first | (with_reducible show WP _ _ _ _ _ _ (Value.int (nI _) :: _) _; refine wp_ialdN (pc := 64) dX7_quarrel_64 rfl (by omega) (by first | with_reducible assumption | with_reducible exact hs_same _ _ _ _ | rfl) ?_) | refine wp_iald (pc := 64) dX7_quarrel_64 rfl (by assumption) rfl ?_
    refine wp_iconst (pc := 65) (v := nI 1) dX7_quarrel_65 rfl ?_
    refine wp_iload_n (pc := 66) (i := 2) dX7_quarrel_66 rfl rfl ?_
    first | (with_reducible show WP _ _ _ _ _ _ (Value.int (nI _) :: Value.int (nI _) :: _) _; refine wp_ishlN (pc := 67) dX7_quarrel_67 (by omega) ?_) | refine wp_ishl (pc := 67) dX7_quarrel_67 ?_
    first | (with_reducible show WP _ _ _ _ _ _ (Value.int (nI _) :: Value.int (nI _) :: _) _; refine wp_ixorN (pc := 68) dX7_quarrel_68 ?_) | refine wp_ixor (pc := 68) dX7_quarrel_68 ?_
    first | (with_reducible show WP _ _ _ _ _ _ (_ :: Value.int (nI _) :: _) _; refine wp_iastN (pc := 69) dX7_quarrel_69 rfl (by omega) ?_) | refine wp_iast (pc := 69) dX7_quarrel_69 rfl (by assumption) rfl ?_
    refine wp_aload_n (pc := 70) (i := 0) dX7_quarrel_70 rfl rfl ?_
    refine wp_gfr (pc := 71) fk_X7_7 dX7_quarrel_71 rfl rfl (by decide) ?_
    refine wp_bipush (pc := 74) (v := nI 50) dX7_quarrel_74 rfl ?_
    refine wp_iload_n (pc := 76) (i := 2) dX7_quarrel_76 rfl rfl ?_
    first | (with_reducible show WP _ _ _ _ _ _ (Value.int (nI _) :: Value.int (nI _) :: _) _; refine wp_iaddN (pc := 77) dX7_quarrel_77 ?_) | refine wp_iadd (pc := 77) dX7_quarrel_77 ?_
    refine wp_dup2 (pc := 78) dX7_quarrel_78 rfl rfl ?_
    first | (with_reducible show WP _ _ _ _ _ _ (Value.int (nI _) :: _) _; refine wp_ialdN (pc := 79) dX7_quarrel_79 rfl (by omega) (by first | with_reducible assumption | with_reducible exact hs_same _ _ _ _ | rfl) ?_) | refine wp_iald (pc := 79) dX7_quarrel_79 rfl (by assumption) rfl ?_
    refine wp_iconst (pc := 80) (v := nI 1) dX7_quarrel_80 rfl ?_
    refine wp_iload_n (pc := 81) (i := 1) dX7_quarrel_81 rfl rfl ?_
    first | (with_reducible show WP _ _ _ _ _ _ (Value.int (nI _) :: Value.int (nI _) :: _) _; refine wp_ishlN (pc := 82) dX7_quarrel_82 (by omega) ?_) | refine wp_ishl (pc := 82) dX7_quarrel_82 ?_
    first | (with_reducible show WP _ _ _ _ _ _ (Value.int (nI _) :: Value.int (nI _) :: _) _; refine wp_ixorN (pc := 83) dX7_quarrel_83 ?_) | refine wp_ixor (pc := 83) dX7_quarrel_83 ?_
    first | (with_reducible show WP _ _ _ _ _ _ (_ :: Value.int (nI _) :: _) _; refine wp_iastN (pc := 84) dX7_quarrel_84 rfl (by omega) ?_) | refine wp_iast (pc := 84) dX7_quarrel_84 rfl (by assumption) rfl ?_
    refine wp_aload_n (pc := 85) (i := 0) dX7_quarrel_85 rfl rfl ?_
    refine wp_gfr (pc := 86) fk_X7_7 dX7_quarrel_86 rfl rfl (by decide) ?_
    refine wp_bipush (pc := 89) (v := nI 50) dX7_quarrel_89 rfl ?_
    refine wp_iload_n (pc := 91) (i := 1) dX7_quarrel_91 rfl rfl ?_
    first | (with_reducible show WP _ _ _ _ _ _ (Value.int (nI _) :: Value.int (nI _) :: _) _; refine wp_iaddN (pc := 92) dX7_quarrel_92 ?_) | refine wp_iadd (pc := 92) dX7_quarrel_92 ?_
    first | (with_reducible show WP _ _ _ _ _ _ (Value.int (nI _) :: _) _; refine wp_ialdN (pc := 93) dX7_quarrel_93 rfl (by omega) (by first | with_reducible assumption | with_reducible exact hs_same _ _ _ _ | rfl) ?_) | refine wp_iald (pc := 93) dX7_quarrel_93 rfl (by assumption) rfl ?_
    refine wp_iret (pc := 94) dX7_quarrel_94 rfl ?_
    rotate_left
    exact k _ (H.acts z2 ((hA1.row (by omega)).row (by omega)) (by rw [qrl, up_ne (by omega), up_ne (by omega)]) hf2) hf2.ds
  refine wp_aload_n (pc := 22) (i := 0) dX7_quarrel_22 rfl rfl ?_
  refine wp_gfr (pc := 23) fk_X7_7 dX7_quarrel_23 rfl rfl (by decide) ?_
  refine wp_bipush (pc := 26) (v := nI 50) dX7_quarrel_26 rfl ?_
  refine wp_iload_n (pc := 28) (i := 1) dX7_quarrel_28 rfl rfl ?_
  first | (with_reducible show WP _ _ _ _ _ _ (Value.int (nI _) :: Value.int (nI _) :: _) _; refine wp_iaddN (pc := 29) dX7_quarrel_29 ?_) | refine wp_iadd (pc := 29) dX7_quarrel_29 ?_
  first | (with_reducible show WP _ _ _ _ _ _ (Value.int (nI _) :: _) _; refine wp_ialdN (pc := 30) dX7_quarrel_30 rfl (by omega) (by first | with_reducible assumption | with_reducible exact hs_same _ _ _ _ | rfl) ?_) | refine wp_iald (pc := 30) dX7_quarrel_30 rfl (by assumption) rfl ?_
  refine wp_iload_n (pc := 31) (i := 2) dX7_quarrel_31 rfl rfl ?_
  refine wp_cS2i (pc := 32) lk_X7_148 dX7_quarrel_32 rfl (sp7_has (by omega) (by omega) ?_)
  refine wp_iload_n (pc := 35) (i := 3) dX7_quarrel_35 rfl rfl ?_
  refine wp_iconst (pc := 36) (v := nI 1) dX7_quarrel_36 rfl ?_
  first | (with_reducible show WP _ _ _ _ _ _ (Value.int (nI _) :: Value.int (nI _) :: _) _; refine wp_icmp_neN (pc := 37) (tgt := 44) dX7_quarrel_37 (by decide) (by omega) (by omega) (fun c37 => ?_) (fun c37 => ?_)) | refine wp_icmp_ne (pc := 37) (tgt := 44) dX7_quarrel_37 (by decide) (fun c37 => ?_) (fun c37 => ?_)
  refine wp_iconst (pc := 44) (v := nI 0) dX7_quarrel_44 rfl ?_
  first | (with_reducible show WP _ _ _ _ _ _ (Value.int (nI _) :: Value.int (nI _) :: _) _; refine wp_icmp_neN (pc := 45) (tgt := 51) dX7_quarrel_45 (by decide) (by omega) (by omega) (fun c45 => ?_) (fun c45 => ?_)) | refine wp_icmp_ne (pc := 45) (tgt := 51) dX7_quarrel_45 (by decide) (fun c45 => ?_) (fun c45 => ?_)
  rotate_left
  refine wp_ldc (pc := 48) kn_X7_143 dX7_quarrel_48 ?_
  refine wp_iret (pc := 50) dX7_quarrel_50 rfl ?_
  rotate_left
  refine wp_iconst (pc := 40) (v := nI 1) dX7_quarrel_40 rfl ?_
  refine wp_goto (pc := 41) (tgt := 45) dX7_quarrel_41 (by decide) ?_
  first | (with_reducible show WP _ _ _ _ _ _ (Value.int (nI _) :: Value.int (nI _) :: _) _; refine wp_icmp_neN (pc := 45) (tgt := 51) dX7_quarrel_45 (by decide) (by omega) (by omega) (fun c45 => ?_) (fun c45 => ?_)) | refine wp_icmp_ne (pc := 45) (tgt := 51) dX7_quarrel_45 (by decide) (fun c45 => ?_) (fun c45 => ?_)
  rotate_left
  refine wp_ldc (pc := 48) kn_X7_143 dX7_quarrel_48 ?_
  refine wp_iret (pc := 50) dX7_quarrel_50 rfl ?_
  rotate_left
  · refine fin (fun q => c45 ?_)
    rw [decide_eq_false c37] at q; rw [q]; rfl
  · have q : (gT σ (50 + g)).testBit o = decide (m = 1) := by
      rw [decide_eq_false c37]
      cases z : (gT σ (50 + g)).testBit o with
      | false => rfl
      | true => rw [z] at c45; exact absurd c45 (by decide)
    simp only [Bool.and_self, if_true, q] at k
    exact k h H DS.rf
  · refine fin (fun q => c45 ?_)
    rw [decide_eq_true c37] at q; rw [q]; rfl
  · have q : (gT σ (50 + g)).testBit o = decide (m = 1) := by
      rw [decide_eq_true c37]
      cases z : (gT σ (50 + g)).testBit o with
      | true => rfl
      | false => rw [z] at c45; exact absurd c45 (by decide)
    simp only [Bool.and_self, if_true, q] at k
    exact k h H DS.rf
theorem ri_town (H : RI h σ) : (gT σ 1 = 0 ∧ h 89 1 = nI 0) ∨ (0 < gT σ 1 ∧ h 89 1 = nI 1) := by
  have := H.2.1
  by_cases z : 0 < gT σ 1
  · rw [if_pos z] at this; exact Or.inr ⟨z, this⟩
  · rw [if_neg z] at this; exact Or.inl ⟨by omega, this⟩
theorem sr_days {n : Int32} {K : Int32 → Hp → Prop} (H : RI h σ) (hO : OKS σ) (k : ∀ h', RI h' (fDays σ n).2 → DS h h' → K (fDays σ n).1 h') : Call G (d + 4) mX7_days [.ref 89, .int n] h (pI K) := by
  have hR := H.1
  have hOT := hO.1.1
  have hd9 := hO.1.2
  refine Call.of (M := mX7_days) (n := 1) (by decide +kernel) rfl ?_
  show WP _ _ _ _ 0 [some (.ref 89), some (.int n), none] [] _
  rcases ri_town H with ⟨z, e1⟩ | ⟨z, e1⟩
  · rw [fDays, if_pos z] at k
    refine wp_aload_n (pc := 0) (i := 0) dX7_days_0 rfl rfl ?_
    refine wp_gfv (pc := 1) fk_X7_136 dX7_days_1 rfl rfl (by first | with_reducible assumption | with_reducible exact hs_same _ _ _ _ | rfl) ?_
    first | (with_reducible show WP _ _ _ _ _ _ (Value.int (bI _) :: _) _; refine wp_if_neB (pc := 4) (tgt := 10) dX7_days_4 (by decide) (fun c4 => ?_) (fun c4 => ?_)) | (with_reducible show WP _ _ _ _ _ _ (Value.int (nI _) :: _) _; refine wp_if_neN (pc := 4) (tgt := 10) dX7_days_4 (by decide) (by omega) (fun c4 => ?_) (fun c4 => ?_)) | refine wp_if_ne (pc := 4) (tgt := 10) dX7_days_4 (by decide) (fun c4 => ?_) (fun c4 => ?_)
    rotate_left
    refine wp_ldc (pc := 7) kn_X7_143 dX7_days_7 ?_
    refine wp_iret (pc := 9) dX7_days_9 rfl ?_
    rotate_left
    · exact absurd rfl c4
    · exact k h H DS.rf
  rw [fDays, if_neg (by omega)] at k
  refine wp_aload_n (pc := 0) (i := 0) dX7_days_0 rfl rfl ?_
  refine wp_gfv (pc := 1) fk_X7_136 dX7_days_1 rfl rfl (by first | with_reducible assumption | with_reducible exact hs_same _ _ _ _ | rfl) ?_
  first | (with_reducible show WP _ _ _ _ _ _ (Value.int (bI _) :: _) _; refine wp_if_neB (pc := 4) (tgt := 10) dX7_days_4 (by decide) (fun c4 => ?_) (fun c4 => ?_)) | (with_reducible show WP _ _ _ _ _ _ (Value.int (nI _) :: _) _; refine wp_if_neN (pc := 4) (tgt := 10) dX7_days_4 (by decide) (by omega) (fun c4 => ?_) (fun c4 => ?_)) | refine wp_if_ne (pc := 4) (tgt := 10) dX7_days_4 (by decide) (fun c4 => ?_) (fun c4 => ?_)
  refine wp_iload_n (pc := 10) (i := 1) dX7_days_10 rfl rfl ?_
  first | (with_reducible show WP _ _ _ _ _ _ (Value.int (nI _) :: _) _; refine wp_i2lN (pc := 11) dX7_days_11 (by omega) ?_) | refine wp_i2l (pc := 11) dX7_days_11 rfl ?_
  refine wp_lconst (pc := 12) (v := lN 1) dX7_days_12 rfl ?_
  refine wp_ldc2 (pc := 13) kn_X7_167 dX7_days_13 ?_
  refine wp_cS3i (pc := 16) lk_X7_48 dX7_days_16 rfl (sp7_btw (by decide) (by decide) ?_)
  first | (with_reducible show WP _ _ _ _ _ _ (Value.int (bI _) :: _) _; refine wp_if_neB (pc := 19) (tgt := 25) dX7_days_19 (by decide) (fun c19 => ?_) (fun c19 => ?_)) | (with_reducible show WP _ _ _ _ _ _ (Value.int (nI _) :: _) _; refine wp_if_neN (pc := 19) (tgt := 25) dX7_days_19 (by decide) (by omega) (fun c19 => ?_) (fun c19 => ?_)) | refine wp_if_ne (pc := 19) (tgt := 25) dX7_days_19 (by decide) (fun c19 => ?_) (fun c19 => ?_)
  rotate_left
  refine wp_ldc (pc := 22) kn_X7_58 dX7_days_22 ?_
  refine wp_iret (pc := 24) dX7_days_24 rfl ?_
  rotate_left
  rotate_left
  rotate_left
  · rw [c19] at k; exact k h H DS.rf
  · exact absurd c4 (by decide)
  rw [c19] at k
  obtain ⟨m, hm1, hm, rfl⟩ := btw_t (by decide) c19
  rw [nI_clamp (show m < 2 ^ 31 by omega)] at k
  have e4 : h 90 4 = nI (gT σ 4) := hR 4 (by omega)
  by_cases hq : gT σ 4 + m ≤ 999
  · simp only [if_true, hq] at k
    have loop : ∀ j i h1, i + j = m → RI h1 (dys σ i) → DS h h1 → WP G (d + 4) mX7_days (pI K) 44 [some (.ref 89), some (.int (nI m)), some (.int (nI i))] [] h1 := by
      intro j
      induction j with
      | zero =>
        intro i h1 hij H1 hr1
        obtain ⟨a, b, c⟩ := dys_ok hO z i (by omega)
        have r4 : h1 90 4 = nI (gT σ 4 + m) := by have := H1.1 4 (by omega); rw [c, show i = m by omega] at this; exact this
        refine wp_iload_n (pc := 44) (i := 2) dX7_days_44 rfl rfl ?_
        refine wp_iload_n (pc := 45) (i := 1) dX7_days_45 rfl rfl ?_
        first | (with_reducible show WP _ _ _ _ _ _ (Value.int (nI _) :: Value.int (nI _) :: _) _; refine wp_icmp_geN (pc := 46) (tgt := 64) dX7_days_46 (by decide) (by omega) (by omega) (fun c46 => ?_) (fun c46 => ?_)) | refine wp_icmp_ge (pc := 46) (tgt := 64) dX7_days_46 (by decide) (fun c46 => ?_) (fun c46 => ?_)
        refine wp_aload_n (pc := 64) (i := 0) dX7_days_64 rfl rfl ?_
        refine wp_gfr (pc := 65) fk_X7_7 dX7_days_65 rfl rfl (by decide) ?_
        refine wp_iconst (pc := 68) (v := nI 4) dX7_days_68 rfl ?_
        first | (with_reducible show WP _ _ _ _ _ _ (Value.int (nI _) :: _) _; refine wp_ialdN (pc := 69) dX7_days_69 rfl (by omega) (by first | with_reducible assumption | with_reducible exact hs_same _ _ _ _ | rfl) ?_) | refine wp_iald (pc := 69) dX7_days_69 rfl (by assumption) rfl ?_
        refine wp_iret (pc := 70) dX7_days_70 rfl ?_
        rotate_left
        rotate_left
        · rw [show i = m by omega] at H1; exact k h1 H1 hr1
        · exact absurd hij (by omega)
      | succ j ih =>
        intro i h1 hij H1 hr1
        obtain ⟨a, b, c⟩ := dys_ok hO z i (by omega)
        refine wp_iload_n (pc := 44) (i := 2) dX7_days_44 rfl rfl ?_
        refine wp_iload_n (pc := 45) (i := 1) dX7_days_45 rfl rfl ?_
        first | (with_reducible show WP _ _ _ _ _ _ (Value.int (nI _) :: Value.int (nI _) :: _) _; refine wp_icmp_geN (pc := 46) (tgt := 64) dX7_days_46 (by decide) (by omega) (by omega) (fun c46 => ?_) (fun c46 => ?_)) | refine wp_icmp_ge (pc := 46) (tgt := 64) dX7_days_46 (by decide) (fun c46 => ?_) (fun c46 => ?_)
        rotate_left
        refine wp_aload_n (pc := 49) (i := 0) dX7_days_49 rfl rfl ?_
        refine wp_cV0v (pc := 50) lk_X7_169 dX7_days_50 rfl rfl rfl (sp7_keepPast H1.1 H1.2.2.1 (fun h2 hA2 hR2 hf2 => ?_))
        rotate_left
        · exact absurd hij (by omega)
        refine wp_aload_n (pc := 53) (i := 0) dX7_days_53 rfl rfl ?_
        refine wp_iconst (pc := 54) (v := nI 0) dX7_days_54 rfl ?_
        refine wp_cV1v (pc := 55) lk_X7_172 dX7_days_55 rfl rfl rfl (sp7_pass hR2 a.1 (by omega) b (by have := a.2; omega) (fun h3 hR3 hf3 => ?_))
        first | refine wp_iincN (pc := 58) (i := 2) (n := 1) dX7_days_58 rfl rfl (by decide) rfl ?_ | refine wp_iinc (pc := 58) (i := 2) dX7_days_58 rfl rfl rfl (by decide) rfl ?_
        dsimp only [List.set_cons_zero, List.set_cons_succ]
        refine wp_goto (pc := 61) (tgt := 44) dX7_days_61 (by decide) ?_
        rotate_left
        have hf4 := hf2.tr (FA.fb hf3 (by omega))
        refine ih (i + 1) h3 (by omega) ?_ (hr1.tr hf4.ds)
        have p1 := (okp_pass a b (by omega)).2.1
        exact H1.acts hR3 (hA2.cg (by rw [hf3.1 89 (by decide)]) (fun q q1 q2 => hf3.2 q (by omega))) ⟨fun _ => b, fun _ => p1⟩ hf4
    refine wp_aload_n (pc := 25) (i := 0) dX7_days_25 rfl rfl ?_
    refine wp_gfr (pc := 26) fk_X7_7 dX7_days_26 rfl rfl (by decide) ?_
    refine wp_iconst (pc := 29) (v := nI 4) dX7_days_29 rfl ?_
    first | (with_reducible show WP _ _ _ _ _ _ (Value.int (nI _) :: _) _; refine wp_ialdN (pc := 30) dX7_days_30 rfl (by omega) (by first | with_reducible assumption | with_reducible exact hs_same _ _ _ _ | rfl) ?_) | refine wp_iald (pc := 30) dX7_days_30 rfl (by assumption) rfl ?_
    refine wp_iload_n (pc := 31) (i := 1) dX7_days_31 rfl rfl ?_
    first | (with_reducible show WP _ _ _ _ _ _ (Value.int (nI _) :: Value.int (nI _) :: _) _; refine wp_iaddN (pc := 32) dX7_days_32 ?_) | refine wp_iadd (pc := 32) dX7_days_32 ?_
    refine wp_sipush (pc := 33) (v := nI 999) dX7_days_33 rfl ?_
    first | (with_reducible show WP _ _ _ _ _ _ (Value.int (nI _) :: Value.int (nI _) :: _) _; refine wp_icmp_leN (pc := 36) (tgt := 42) dX7_days_36 (by decide) (by omega) (by omega) (fun c36 => ?_) (fun c36 => ?_)) | refine wp_icmp_le (pc := 36) (tgt := 42) dX7_days_36 (by decide) (fun c36 => ?_) (fun c36 => ?_)
    refine wp_iconst (pc := 42) (v := nI 0) dX7_days_42 rfl ?_
    refine wp_istore_n (pc := 43) (i := 2) dX7_days_43 rfl rfl (by decide) rfl ?_
    dsimp only [List.set_cons_zero, List.set_cons_succ]
    rotate_left
    rotate_left
    · exact loop m 0 h (by omega) H DS.rf
    · exact absurd hq (by omega)
  · simp only [if_true, hq, if_false] at k
    refine wp_aload_n (pc := 25) (i := 0) dX7_days_25 rfl rfl ?_
    refine wp_gfr (pc := 26) fk_X7_7 dX7_days_26 rfl rfl (by decide) ?_
    refine wp_iconst (pc := 29) (v := nI 4) dX7_days_29 rfl ?_
    first | (with_reducible show WP _ _ _ _ _ _ (Value.int (nI _) :: _) _; refine wp_ialdN (pc := 30) dX7_days_30 rfl (by omega) (by first | with_reducible assumption | with_reducible exact hs_same _ _ _ _ | rfl) ?_) | refine wp_iald (pc := 30) dX7_days_30 rfl (by assumption) rfl ?_
    refine wp_iload_n (pc := 31) (i := 1) dX7_days_31 rfl rfl ?_
    first | (with_reducible show WP _ _ _ _ _ _ (Value.int (nI _) :: Value.int (nI _) :: _) _; refine wp_iaddN (pc := 32) dX7_days_32 ?_) | refine wp_iadd (pc := 32) dX7_days_32 ?_
    refine wp_sipush (pc := 33) (v := nI 999) dX7_days_33 rfl ?_
    first | (with_reducible show WP _ _ _ _ _ _ (Value.int (nI _) :: Value.int (nI _) :: _) _; refine wp_icmp_leN (pc := 36) (tgt := 42) dX7_days_36 (by decide) (by omega) (by omega) (fun c36 => ?_) (fun c36 => ?_)) | refine wp_icmp_le (pc := 36) (tgt := 42) dX7_days_36 (by decide) (fun c36 => ?_) (fun c36 => ?_)
    rotate_left
    refine wp_ldc (pc := 39) kn_X7_79 dX7_days_39 ?_
    refine wp_iret (pc := 41) dX7_days_41 rfl ?_
    rotate_left
    · exact absurd c36 (by omega)
    · exact k h H DS.rf
theorem sr_undo {K : Int32 → Hp → Prop} (H : RI h σ) (hO : OKS σ) (hN : OKN σ) (k : ∀ h', RI h' (fUndo σ).2 → DS h h' → K (fUndo σ).1 h') : Call G (d + 2) mX7_undo [.ref 89] h (pI K) := by
  refine Call.of (M := mX7_undo) (n := 0) (by decide +kernel) rfl ?_
  show WP _ _ _ _ 0 [some (.ref 89)] [] _
  obtain ⟨a1, a2, a3⟩ := H.2.2.1
  rcases List.eq_nil_or_concat (gP σ) with hP | ⟨P, T, hP⟩
  · rw [hP] at a1
    rw [fUndo, hP] at k
    have a1 : h 89 2 = nI 0 := a1
    refine wp_aload_n (pc := 0) (i := 0) dX7_undo_0 rfl rfl ?_
    refine wp_gfv (pc := 1) fk_X7_140 dX7_undo_1 rfl rfl (by first | with_reducible assumption | with_reducible exact hs_same _ _ _ _ | rfl) ?_
    first | (with_reducible show WP _ _ _ _ _ _ (Value.int (bI _) :: _) _; refine wp_if_neB (pc := 4) (tgt := 10) dX7_undo_4 (by decide) (fun c4 => ?_) (fun c4 => ?_)) | (with_reducible show WP _ _ _ _ _ _ (Value.int (nI _) :: _) _; refine wp_if_neN (pc := 4) (tgt := 10) dX7_undo_4 (by decide) (by omega) (fun c4 => ?_) (fun c4 => ?_)) | refine wp_if_ne (pc := 4) (tgt := 10) dX7_undo_4 (by decide) (fun c4 => ?_) (fun c4 => ?_)
    rotate_left
    refine wp_ldc (pc := 7) kn_X7_143 dX7_undo_7 ?_
    refine wp_iret (pc := 9) dX7_undo_9 rfl ?_
    rotate_left
    · exact absurd rfl c4
    · exact k h H DS.rf
  · have hP : gP σ = P ++ [T] := by rw [hP]; exact List.concat_eq_append
    rw [hP] at a1 a2
    rw [fUndo, hP, List.getLast?_append] at k
    have hl : (P ++ [T]).length = P.length + 1 := by simp
    have k1 : ∀ h', RI h' (upTP σ T P) → DS h h' → K (nI P.length) h' := by
      have e1 : (P ++ [T]).length - 1 = P.length := by simp
      have e2 : (P ++ [T]).dropLast = P := by simp
      rw [e1, e2] at k
      exact k
    have hT := (hO.2.1 P.length T (by rw [hP]; simp))
    have hRT := a3 P.length T (by rw [hP]; simp)
    rw [hl] at a1 a2
    have g0 : 0 < gT σ 1 := by
      rcases Nat.eq_zero_or_pos (gT σ 1) with z | z
      · have := (hN z).2.1; rw [hP] at this; simp at this
      · exact z
    have b2 : hs h 89 2 (nI P.length) 89 2 = nI P.length := hs_same _ _ _ _
    have hR1 : RW (hs h 89 2 (nI P.length)) (56 + 56 * P.length) T := hRT.cg (fun k _ _ => by rw [hs_ne (by decide)])
    refine wp_aload_n (pc := 0) (i := 0) dX7_undo_0 rfl rfl ?_
    refine wp_gfv (pc := 1) fk_X7_140 dX7_undo_1 rfl rfl (by first | with_reducible assumption | with_reducible exact hs_same _ _ _ _ | rfl) ?_
    first | (with_reducible show WP _ _ _ _ _ _ (Value.int (bI _) :: _) _; refine wp_if_neB (pc := 4) (tgt := 10) dX7_undo_4 (by decide) (fun c4 => ?_) (fun c4 => ?_)) | (with_reducible show WP _ _ _ _ _ _ (Value.int (nI _) :: _) _; refine wp_if_neN (pc := 4) (tgt := 10) dX7_undo_4 (by decide) (by omega) (fun c4 => ?_) (fun c4 => ?_)) | refine wp_if_ne (pc := 4) (tgt := 10) dX7_undo_4 (by decide) (fun c4 => ?_) (fun c4 => ?_)
    refine wp_aload_n (pc := 10) (i := 0) dX7_undo_10 rfl rfl ?_
    refine wp_dup (pc := 11) dX7_undo_11 rfl ?_
    refine wp_gfv (pc := 12) fk_X7_140 dX7_undo_12 rfl rfl (by first | with_reducible assumption | with_reducible exact hs_same _ _ _ _ | rfl) ?_
    refine wp_iconst (pc := 15) (v := nI 1) dX7_undo_15 rfl ?_
    first | (with_reducible show WP _ _ _ _ _ _ (Value.int (nI _) :: Value.int (nI _) :: _) _; refine wp_isubN (pc := 16) dX7_undo_16 (by omega) ?_) | refine wp_isub (pc := 16) dX7_undo_16 ?_
    refine wp_pf (pc := 17) fp_X7_140 dX7_undo_17 rfl rfl rfl rfl ?_
    refine wp_aload_n (pc := 20) (i := 0) dX7_undo_20 rfl rfl ?_
    refine wp_bipush (pc := 21) (v := nI 56) dX7_undo_21 rfl ?_
    refine wp_bipush (pc := 23) (v := nI 56) dX7_undo_23 rfl ?_
    refine wp_aload_n (pc := 25) (i := 0) dX7_undo_25 rfl rfl ?_
    refine wp_gfv (pc := 26) fk_X7_140 dX7_undo_26 rfl rfl (by first | with_reducible assumption | with_reducible exact hs_same _ _ _ _ | rfl) ?_
    first | (with_reducible show WP _ _ _ _ _ _ (Value.int (nI _) :: Value.int (nI _) :: _) _; refine wp_imulN (pc := 29) dX7_undo_29 ?_) | refine wp_imul (pc := 29) dX7_undo_29 ?_
    first | (with_reducible show WP _ _ _ _ _ _ (Value.int (nI _) :: Value.int (nI _) :: _) _; refine wp_iaddN (pc := 30) dX7_undo_30 ?_) | refine wp_iadd (pc := 30) dX7_undo_30 ?_
    refine wp_iconst (pc := 31) (v := nI 0) dX7_undo_31 rfl ?_
    refine wp_cV2v (pc := 32) lk_X7_132 dX7_undo_32 rfl rfl rfl (sp7_copyTown hR1 (by omega) (by omega) (by omega) (fun h1 hR2 hf2 => ?_))
    rotate_left
    rotate_left
    · have b3 : h1 89 2 = nI P.length := by rw [hf2.1 89 (by decide)]; exact b2
      refine wp_aload_n (pc := 35) (i := 0) dX7_undo_35 rfl rfl ?_
      refine wp_gfv (pc := 36) fk_X7_140 dX7_undo_36 rfl rfl (by first | with_reducible assumption | with_reducible exact hs_same _ _ _ _ | rfl) ?_
      refine wp_iret (pc := 39) dX7_undo_39 rfl ?_
      rotate_left
      have hf3 : FA h h1 := ⟨fun a b1 b2 => by rw [hf2.1 a b2]; exact hs_ne b1, fun q hq => by rw [hf2.1 89 (by decide)]; exact hs_ix hq, fun q z1 z2 => by rw [hf2.2 q (by omega), hs_ne (by decide)]⟩
      refine k1 h1 (H.acts hR2 ⟨b3, by omega, fun j U hj => ?_⟩ ⟨fun _ => g0, fun _ => hT.2⟩ hf3) hf3.ds
      have hj2 : j < P.length := (List.getElem?_eq_some_iff.mp hj).1
      refine (a3 j U (by rw [hP, List.getElem?_append_left hj2]; exact hj)).cg (fun k k1 k2 => ?_)
      rw [hf2.2 k (by omega), hs_ne (by decide)]
    · exact absurd c4 (by omega)
theorem sr_image {x : Int32} {K : Int32 → Hp → Prop} (H : RI h σ) (k : ∀ h', RI h' (fImage σ x).2 → DS h h' → K (fImage σ x).1 h') : Call G (d + 2) mX7_image [.ref 89, .int x] h (pI K) := by
  refine Call.of (M := mX7_image) (n := 0) (by decide +kernel) rfl ?_
  show WP _ _ _ _ 0 [some (.ref 89), some (.int x)] [] _
  refine wp_iload_n (pc := 0) (i := 1) dX7_image_0 rfl rfl ?_
  first | (with_reducible show WP _ _ _ _ _ _ (Value.int (nI _) :: _) _; refine wp_i2lN (pc := 1) dX7_image_1 (by omega) ?_) | refine wp_i2l (pc := 1) dX7_image_1 rfl ?_
  refine wp_lconst (pc := 2) (v := lN 0) dX7_image_2 rfl ?_
  refine wp_lconst (pc := 3) (v := lN 1) dX7_image_3 rfl ?_
  refine wp_cS3i (pc := 4) lk_X7_48 dX7_image_4 rfl (sp7_btw (by decide) (by decide) ?_)
  first | (with_reducible show WP _ _ _ _ _ _ (Value.int (bI _) :: _) _; refine wp_if_neB (pc := 7) (tgt := 13) dX7_image_7 (by decide) (fun c7 => ?_) (fun c7 => ?_)) | (with_reducible show WP _ _ _ _ _ _ (Value.int (nI _) :: _) _; refine wp_if_neN (pc := 7) (tgt := 13) dX7_image_7 (by decide) (by omega) (fun c7 => ?_) (fun c7 => ?_)) | refine wp_if_ne (pc := 7) (tgt := 13) dX7_image_7 (by decide) (fun c7 => ?_) (fun c7 => ?_)
  rotate_left
  refine wp_ldc (pc := 10) kn_X7_58 dX7_image_10 ?_
  refine wp_iret (pc := 12) dX7_image_12 rfl ?_
  rotate_left
  rotate_left
  · rw [fImage, c7] at k; exact k h H DS.rf
  rw [fImage, c7] at k
  obtain ⟨m, -, hm, rfl⟩ := btw_t (by decide) c7
  rw [nI_clamp (show m < 2 ^ 31 by omega)] at k
  rcases ri_town H with ⟨z, e1⟩ | ⟨z, e1⟩
  · rw [if_pos z] at k
    refine wp_aload_n (pc := 13) (i := 0) dX7_image_13 rfl rfl ?_
    refine wp_gfv (pc := 14) fk_X7_136 dX7_image_14 rfl rfl (by first | with_reducible assumption | with_reducible exact hs_same _ _ _ _ | rfl) ?_
    first | (with_reducible show WP _ _ _ _ _ _ (Value.int (bI _) :: _) _; refine wp_if_neB (pc := 17) (tgt := 23) dX7_image_17 (by decide) (fun c17 => ?_) (fun c17 => ?_)) | (with_reducible show WP _ _ _ _ _ _ (Value.int (nI _) :: _) _; refine wp_if_neN (pc := 17) (tgt := 23) dX7_image_17 (by decide) (by omega) (fun c17 => ?_) (fun c17 => ?_)) | refine wp_if_ne (pc := 17) (tgt := 23) dX7_image_17 (by decide) (fun c17 => ?_) (fun c17 => ?_)
    rotate_left
    refine wp_ldc (pc := 20) kn_X7_143 dX7_image_20 ?_
    refine wp_iret (pc := 22) dX7_image_22 rfl ?_
    rotate_left
    · exact absurd rfl c17
    · exact k h H DS.rf
  rw [if_neg (show ¬ gT σ 1 = 0 by omega)] at k
  refine wp_aload_n (pc := 13) (i := 0) dX7_image_13 rfl rfl ?_
  refine wp_gfv (pc := 14) fk_X7_136 dX7_image_14 rfl rfl (by first | with_reducible assumption | with_reducible exact hs_same _ _ _ _ | rfl) ?_
  first | (with_reducible show WP _ _ _ _ _ _ (Value.int (bI _) :: _) _; refine wp_if_neB (pc := 17) (tgt := 23) dX7_image_17 (by decide) (fun c17 => ?_) (fun c17 => ?_)) | (with_reducible show WP _ _ _ _ _ _ (Value.int (nI _) :: _) _; refine wp_if_neN (pc := 17) (tgt := 23) dX7_image_17 (by decide) (by omega) (fun c17 => ?_) (fun c17 => ?_)) | refine wp_if_ne (pc := 17) (tgt := 23) dX7_image_17 (by decide) (fun c17 => ?_) (fun c17 => ?_)
  refine wp_aload_n (pc := 23) (i := 0) dX7_image_23 rfl rfl ?_
  refine wp_iconst (pc := 24) (v := nI 0) dX7_image_24 rfl ?_
  refine wp_sipush (pc := 25) (v := nI 1400) dX7_image_25 rfl ?_
  refine wp_bipush (pc := 28) (v := nI 56) dX7_image_28 rfl ?_
  refine wp_iload_n (pc := 30) (i := 1) dX7_image_30 rfl rfl ?_
  first | (with_reducible show WP _ _ _ _ _ _ (Value.int (nI _) :: Value.int (nI _) :: _) _; refine wp_imulN (pc := 31) dX7_image_31 ?_) | refine wp_imul (pc := 31) dX7_image_31 ?_
  first | (with_reducible show WP _ _ _ _ _ _ (Value.int (nI _) :: Value.int (nI _) :: _) _; refine wp_iaddN (pc := 32) dX7_image_32 ?_) | refine wp_iadd (pc := 32) dX7_image_32 ?_
  refine wp_cV2v (pc := 33) lk_X7_132 dX7_image_33 rfl rfl rfl (sp7_copyTown H.1 (by omega) (by omega) (by omega) (fun h1 hR2 hf2 => ?_))
  refine wp_aload_n (pc := 36) (i := 0) dX7_image_36 rfl rfl ?_
  refine wp_gfr (pc := 37) fk_X7_13 dX7_image_37 rfl rfl (by decide) ?_
  refine wp_iload_n (pc := 40) (i := 1) dX7_image_40 rfl rfl ?_
  refine wp_iconst (pc := 41) (v := nI 1) dX7_image_41 rfl ?_
  first | (with_reducible show WP _ _ _ _ _ _ (_ :: Value.int (nI _) :: _) _; refine wp_bastN (pc := 42) dX7_image_42 rfl (by omega) rfl ?_) | refine wp_bast (pc := 42) dX7_image_42 rfl (by assumption) rfl rfl ?_
  refine wp_iconst (pc := 43) (v := nI 1) dX7_image_43 rfl ?_
  refine wp_iret (pc := 44) dX7_image_44 rfl ?_
  rotate_left
  rotate_left
  · refine k _ ?_ (fun a ha => by rw [hs_ne (by omega)]; exact hf2.1 a (by omega))
    obtain ⟨a, a2, b, c, f, g, g1, g2, k9⟩ := H
    have n : ∀ q, q ≠ 90 → q ≠ 91 → hs h1 91 m (nI 1) q = h q := fun q hq h2 => by rw [hs_ne h2]; exact hf2.1 q hq
    have n0 : ∀ q, q < 1400 → hs h1 91 m (nI 1) 90 q = h 90 q := fun q hq => by rw [hs_ne (by decide)]; exact hf2.2 q (by omega)
    refine ⟨a.cg (fun q _ _ => n0 q (by omega)), by rw [n 89 (by decide) (by decide)]; exact a2, b.cg (by rw [n 89 (by decide) (by decide)]) (fun q _ _ => n0 q (by omega)), fun q hq => ?_, f.cg (n 92 (by decide) (by decide)) (n 93 (by decide) (by decide)) (n 94 (by decide) (by decide)), g.cg (by rw [n 89 (by decide) (by decide)]) (n 95 (by decide) (by decide)), by rw [n 89 (by decide) (by decide)]; exact g1, by rw [n 89 (by decide) (by decide)]; exact g2, k9.cg (by rw [n 89 (by decide) (by decide)]) (n 96 (by decide) (by decide))⟩
    show rG _ q (if q = m then some (gT σ) else gIm σ q)
    by_cases z : q = m
    · rw [if_pos z, z]
      exact ⟨hs_same _ _ _ _, hR2.cg (fun k _ _ => by rw [hs_ne (by decide)])⟩
    · rw [if_neg z]
      have := c q hq
      cases hI : gIm σ q with
      | none => rw [hI] at this; show hs h1 91 m (nI 1) 91 q = _; rw [hs_ix z, hf2.1 91 (by decide)]; exact this
      | some T => rw [hI] at this; exact ⟨by rw [hs_ix z, hf2.1 91 (by decide)]; exact this.1, this.2.cg (fun k k1 k2 => by rw [hs_ne (by decide), hf2.2 k (by omega)])⟩
  · exact absurd c17 (by decide)
theorem sr_restore {x : Int32} {K : Int32 → Hp → Prop} (H : RI h σ) (hO : OKS σ) (hN : OKN σ) (k : ∀ h', RI h' (fRestore σ x).2 → DS h h' → K (fRestore σ x).1 h') : Call G (d + 2) mX7_restore [.ref 89, .int x] h (pI K) := by
  refine Call.of (M := mX7_restore) (n := 0) (by decide +kernel) rfl ?_
  show WP _ _ _ _ 0 [some (.ref 89), some (.int x)] [] _
  refine wp_iload_n (pc := 0) (i := 1) dX7_restore_0 rfl rfl ?_
  first | (with_reducible show WP _ _ _ _ _ _ (Value.int (nI _) :: _) _; refine wp_i2lN (pc := 1) dX7_restore_1 (by omega) ?_) | refine wp_i2l (pc := 1) dX7_restore_1 rfl ?_
  refine wp_lconst (pc := 2) (v := lN 0) dX7_restore_2 rfl ?_
  refine wp_lconst (pc := 3) (v := lN 1) dX7_restore_3 rfl ?_
  refine wp_cS3i (pc := 4) lk_X7_48 dX7_restore_4 rfl (sp7_btw (by decide) (by decide) ?_)
  first | (with_reducible show WP _ _ _ _ _ _ (Value.int (bI _) :: _) _; refine wp_if_neB (pc := 7) (tgt := 13) dX7_restore_7 (by decide) (fun c7 => ?_) (fun c7 => ?_)) | (with_reducible show WP _ _ _ _ _ _ (Value.int (nI _) :: _) _; refine wp_if_neN (pc := 7) (tgt := 13) dX7_restore_7 (by decide) (by omega) (fun c7 => ?_) (fun c7 => ?_)) | refine wp_if_ne (pc := 7) (tgt := 13) dX7_restore_7 (by decide) (fun c7 => ?_) (fun c7 => ?_)
  rotate_left
  refine wp_ldc (pc := 10) kn_X7_58 dX7_restore_10 ?_
  refine wp_iret (pc := 12) dX7_restore_12 rfl ?_
  rotate_left
  rotate_left
  · rw [fRestore, c7] at k; exact k h H DS.rf
  rw [fRestore, c7] at k
  obtain ⟨m, -, hm, rfl⟩ := btw_t (by decide) c7
  rw [nI_clamp (show m < 2 ^ 31 by omega)] at k
  have hI := H.2.2.2.1 m (by omega)
  cases hc : gIm σ m with
  | none =>
    rw [hc] at hI k
    have e : h 91 m = nI 0 := hI
    refine wp_aload_n (pc := 13) (i := 0) dX7_restore_13 rfl rfl ?_
    refine wp_gfr (pc := 14) fk_X7_13 dX7_restore_14 rfl rfl (by decide) ?_
    refine wp_iload_n (pc := 17) (i := 1) dX7_restore_17 rfl rfl ?_
    first | (with_reducible show WP _ _ _ _ _ _ (Value.int (nI _) :: _) _; refine wp_baldN (pc := 18) dX7_restore_18 rfl (by omega) (by first | with_reducible assumption | with_reducible exact hs_same _ _ _ _ | rfl) ?_) | refine wp_bald (pc := 18) dX7_restore_18 rfl (by assumption) rfl ?_
    first | (with_reducible show WP _ _ _ _ _ _ (Value.int (bI _) :: _) _; refine wp_if_neB (pc := 19) (tgt := 25) dX7_restore_19 (by decide) (fun c19 => ?_) (fun c19 => ?_)) | (with_reducible show WP _ _ _ _ _ _ (Value.int (nI _) :: _) _; refine wp_if_neN (pc := 19) (tgt := 25) dX7_restore_19 (by decide) (by omega) (fun c19 => ?_) (fun c19 => ?_)) | refine wp_if_ne (pc := 19) (tgt := 25) dX7_restore_19 (by decide) (fun c19 => ?_) (fun c19 => ?_)
    rotate_left
    refine wp_ldc (pc := 22) kn_X7_143 dX7_restore_22 ?_
    refine wp_iret (pc := 24) dX7_restore_24 rfl ?_
    rotate_left
    · exact absurd rfl c19
    · exact k h H DS.rf
  | some T =>
    rw [hc] at hI k
    have e : h 91 m = nI 1 := hI.1
    have hT := hO.2.2.1 m T hc
    have g0 : 0 < gT σ 1 := by
      rcases Nat.eq_zero_or_pos (gT σ 1) with z | z
      · have := (hN z).2.2 m; rw [hc] at this; cases this
      · exact z
    refine wp_aload_n (pc := 13) (i := 0) dX7_restore_13 rfl rfl ?_
    refine wp_gfr (pc := 14) fk_X7_13 dX7_restore_14 rfl rfl (by decide) ?_
    refine wp_iload_n (pc := 17) (i := 1) dX7_restore_17 rfl rfl ?_
    first | (with_reducible show WP _ _ _ _ _ _ (Value.int (nI _) :: _) _; refine wp_baldN (pc := 18) dX7_restore_18 rfl (by omega) (by first | with_reducible assumption | with_reducible exact hs_same _ _ _ _ | rfl) ?_) | refine wp_bald (pc := 18) dX7_restore_18 rfl (by assumption) rfl ?_
    first | (with_reducible show WP _ _ _ _ _ _ (Value.int (bI _) :: _) _; refine wp_if_neB (pc := 19) (tgt := 25) dX7_restore_19 (by decide) (fun c19 => ?_) (fun c19 => ?_)) | (with_reducible show WP _ _ _ _ _ _ (Value.int (nI _) :: _) _; refine wp_if_neN (pc := 19) (tgt := 25) dX7_restore_19 (by decide) (by omega) (fun c19 => ?_) (fun c19 => ?_)) | refine wp_if_ne (pc := 19) (tgt := 25) dX7_restore_19 (by decide) (fun c19 => ?_) (fun c19 => ?_)
    refine wp_aload_n (pc := 25) (i := 0) dX7_restore_25 rfl rfl ?_
    refine wp_sipush (pc := 26) (v := nI 1400) dX7_restore_26 rfl ?_
    refine wp_bipush (pc := 29) (v := nI 56) dX7_restore_29 rfl ?_
    refine wp_iload_n (pc := 31) (i := 1) dX7_restore_31 rfl rfl ?_
    first | (with_reducible show WP _ _ _ _ _ _ (Value.int (nI _) :: Value.int (nI _) :: _) _; refine wp_imulN (pc := 32) dX7_restore_32 ?_) | refine wp_imul (pc := 32) dX7_restore_32 ?_
    first | (with_reducible show WP _ _ _ _ _ _ (Value.int (nI _) :: Value.int (nI _) :: _) _; refine wp_iaddN (pc := 33) dX7_restore_33 ?_) | refine wp_iadd (pc := 33) dX7_restore_33 ?_
    refine wp_iconst (pc := 34) (v := nI 0) dX7_restore_34 rfl ?_
    refine wp_cV2v (pc := 35) lk_X7_132 dX7_restore_35 rfl rfl rfl (sp7_copyTown hI.2 (by omega) (by omega) (by omega) (fun h1 hR2 hf2 => ?_))
    refine wp_aload_n (pc := 38) (i := 0) dX7_restore_38 rfl rfl ?_
    refine wp_iconst (pc := 39) (v := nI 0) dX7_restore_39 rfl ?_
    refine wp_pf (pc := 40) fp_X7_140 dX7_restore_40 rfl rfl rfl rfl ?_
    refine wp_iconst (pc := 43) (v := nI 1) dX7_restore_43 rfl ?_
    refine wp_iret (pc := 44) dX7_restore_44 rfl ?_
    rotate_left
    rotate_left
    · have hf3 : FA h (hs h1 89 2 (nI 0)) := ⟨fun a b1 b2 => by rw [hs_ne b1]; exact hf2.1 a b2, fun q hq => by rw [hs_ix hq, hf2.1 89 (by decide)], fun q z1 z2 => by rw [hs_ne (by decide)]; exact hf2.2 q (by omega)⟩
      refine k _ (H.acts (hR2.cg (fun k _ _ => by rw [hs_ne (by decide)])) ⟨hs_same _ _ _ _, by decide, fun j U hj => by simp at hj⟩ ⟨fun _ => g0, fun _ => hT.2⟩ hf3) hf3.ds
    · exact absurd c19 (by decide)
end RACTS2
