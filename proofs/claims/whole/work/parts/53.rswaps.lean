section RSWAPS
variable {G : Gt} {d : Nat} {h : Hp} {T : Tn}
theorem sp7_isBetter {a b n : Nat} {K : Int32 → Hp → Prop} (hR : RW h 0 T) (hO : OKT T) (ha : a < T 1) (hb : b < T 1) (hn : n ≤ 60) (hd : T 4 ≤ 999) (hu : ∀ c, c < T 0 → h 99 c = nI (itP T n (5 + c))) (k : ∀ h', FB h h' 1512 → K (bI (good T n a b)) h') : Call G (d + 4) mX7_isBetter [.ref 89, .int (nI a), .int (nI b), .int (nI n)] h (pI K) := by
  obtain ⟨o0, o1, o2, o3, o4, o5, o6, o7, o8⟩ := id hO
  obtain ⟨q1, q2, q3, q4⟩ := okt_sw hO ha hb
  obtain ⟨i1, i2, i3⟩ := itP_keep hO (by omega) n (by omega)
  obtain ⟨j1, j2, j3⟩ := itP_keep q1 (by omega) n (by omega)
  refine Call.of (M := mX7_isBetter) (n := 3) (by decide +kernel) rfl ?_
  show WP _ _ _ _ 0 [some (.ref 89), some (.int (nI a)), some (.int (nI b)), some (.int (nI n)), none, none, none] [] _
  refine wp_aload_n (pc := 0) (i := 0) dX7_isBetter_0 rfl rfl ?_
  refine wp_iconst (pc := 1) (v := nI 0) dX7_isBetter_1 rfl ?_
  refine wp_sipush (pc := 2) (v := nI 1512) dX7_isBetter_2 rfl ?_
  refine wp_cV2v (pc := 5) lk_X7_132 dX7_isBetter_5 rfl rfl rfl (sp7_copyTown hR (by omega) (by omega) (by omega) (fun h1 hR1 hf1 => ?_))
  rotate_left
  have s1 : h1 90 (32 + b) = nI (T (32 + b)) := by rw [hf1.2 _ (by omega)]; have := hR (32 + b) (by omega); rw [Nat.zero_add] at this; exact this
  have s2 : hs h1 90 (1544 + a) (nI (T (32 + b))) 90 (32 + a) = nI (T (32 + a)) := by rw [hs_ix (by omega), hf1.2 _ (by omega)]; have := hR (32 + a) (by omega); rw [Nat.zero_add] at this; exact this
  have w2 := RWup (v := T (32 + b)) hR1 (show 32 + a < 56 by omega)
  rw [← Nat.add_assoc] at w2
  have w3 := RWup (v := T (32 + a)) w2 (show 32 + b < 56 by omega)
  rw [← Nat.add_assoc] at w3
  have hf3 : FB h (hs (hs h1 90 (1544 + a) (nI (T (32 + b)))) 90 (1544 + b) (nI (T (32 + a)))) 1512 := (hf1.hs (by omega) (by omega)).hs (by omega) (by omega)
  have w3 : RW (hs (hs h1 90 (1544 + a) (nI (T (32 + b)))) 90 (1544 + b) (nI (T (32 + a)))) 1512 (swT T a b) := w3
  have scan : ∀ h2 L4 L5 L6, RW h2 1512 (itP (swT T a b) n) → FB h h2 1512 → WP G (d + 4) mX7_isBetter (pI K) 68 [some (.ref 89), some (.int (nI a)), some (.int (nI b)), some (.int (nI n)), L4, L5, L6] [] h2 := by
    intro h2 L4 L5 L6 hR2 hf2
    have kk := k h2 hf2
    have r0 : h2 90 0 = nI (T 0) := by rw [hf2.2 0 (by omega)]; exact hR 0 (by omega)
    have r5 : ∀ c, c < T 0 → h2 90 (1517 + c) = nI (itP (swT T a b) n (5 + c)) := fun c hc => by have := hR2 (5 + c) (by omega); rwa [← Nat.add_assoc] at this
    have r9 : ∀ c, c < T 0 → h2 99 c = nI (itP T n (5 + c)) := fun c hc => by rw [hf2.1 99 (by decide)]; exact hu c hc
    have loop : ∀ m i, i + m = T 0 → WP G (d + 4) mX7_isBetter (pI K) 77 [some (.ref 89), some (.int (nI a)), some (.int (nI b)), some (.int (nI n)), some (.int (bI (anyU (sgt T n a b) i))), some (.int (bI (anyU (slt T n a b) i))), some (.int (nI i))] [] h2 := by
      intro m
      induction m with
      | zero =>
        intro i him
        rw [good, show T 0 = i by omega] at kk
        refine wp_iload (pc := 77) (i := 6) dX7_isBetter_77 rfl ?_
        refine wp_aload_n (pc := 79) (i := 0) dX7_isBetter_79 rfl rfl ?_
        refine wp_gfr (pc := 80) fk_X7_7 dX7_isBetter_80 rfl rfl (by decide) ?_
        refine wp_iconst (pc := 83) (v := nI 0) dX7_isBetter_83 rfl ?_
        first | (with_reducible show WP _ _ _ _ _ _ (Value.int (nI _) :: _) _; refine wp_ialdN (pc := 84) dX7_isBetter_84 rfl (by omega) (by first | with_reducible assumption | with_reducible exact hs_same _ _ _ _ | rfl) ?_) | refine wp_iald (pc := 84) dX7_isBetter_84 rfl (by assumption) rfl ?_
        first | (with_reducible show WP _ _ _ _ _ _ (Value.int (nI _) :: Value.int (nI _) :: _) _; refine wp_icmp_geN (pc := 85) (tgt := 160) dX7_isBetter_85 (by decide) (by omega) (by omega) (fun c85 => ?_) (fun c85 => ?_)) | refine wp_icmp_ge (pc := 85) (tgt := 160) dX7_isBetter_85 (by decide) (fun c85 => ?_) (fun c85 => ?_)
        refine wp_iload (pc := 160) (i := 4) dX7_isBetter_160 rfl ?_
        first | (with_reducible show WP _ _ _ _ _ _ (Value.int (bI _) :: _) _; refine wp_if_eqB (pc := 162) (tgt := 174) dX7_isBetter_162 (by decide) (fun c162 => ?_) (fun c162 => ?_)) | (with_reducible show WP _ _ _ _ _ _ (Value.int (nI _) :: _) _; refine wp_if_eqN (pc := 162) (tgt := 174) dX7_isBetter_162 (by decide) (by omega) (fun c162 => ?_) (fun c162 => ?_)) | refine wp_if_eq (pc := 162) (tgt := 174) dX7_isBetter_162 (by decide) (fun c162 => ?_) (fun c162 => ?_)
        refine wp_iconst (pc := 174) (v := nI 0) dX7_isBetter_174 rfl ?_
        refine wp_zret (pc := 175) dX7_isBetter_175 rfl (by first | exact Or.inl rfl | exact Or.inr rfl | assumption | exact bI_01 _) ?_
        rotate_left
        refine wp_iload (pc := 165) (i := 5) dX7_isBetter_165 rfl ?_
        first | (with_reducible show WP _ _ _ _ _ _ (Value.int (bI _) :: _) _; refine wp_if_neB (pc := 167) (tgt := 174) dX7_isBetter_167 (by decide) (fun c167 => ?_) (fun c167 => ?_)) | (with_reducible show WP _ _ _ _ _ _ (Value.int (nI _) :: _) _; refine wp_if_neN (pc := 167) (tgt := 174) dX7_isBetter_167 (by decide) (by omega) (fun c167 => ?_) (fun c167 => ?_)) | refine wp_if_ne (pc := 167) (tgt := 174) dX7_isBetter_167 (by decide) (fun c167 => ?_) (fun c167 => ?_)
        refine wp_iconst (pc := 174) (v := nI 0) dX7_isBetter_174 rfl ?_
        refine wp_zret (pc := 175) dX7_isBetter_175 rfl (by first | exact Or.inl rfl | exact Or.inr rfl | assumption | exact bI_01 _) ?_
        rotate_left
        refine wp_iconst (pc := 170) (v := nI 1) dX7_isBetter_170 rfl ?_
        refine wp_goto (pc := 171) (tgt := 175) dX7_isBetter_171 (by decide) ?_
        refine wp_zret (pc := 175) dX7_isBetter_175 rfl (by first | exact Or.inl rfl | exact Or.inr rfl | assumption | exact bI_01 _) ?_
        rotate_left
        rotate_left
        · rw [c162] at kk; exact kk
        · rw [c162, c167] at kk; exact kk
        · rw [c162, c167] at kk; exact kk
        · exact absurd him (by omega)
      | succ m ih =>
        intro i him
        have x1 := r5 i (by omega)
        have x2 := r9 i (by omega)
        have y1 := (i1.2.2.2.2.2.2.1 i (by omega)).1
        have y2 := (j1.2.2.2.2.2.2.1 i (by omega)).1
        have w := ih (i + 1) (by omega)
        rw [show anyU (slt T n a b) (i + 1) = (anyU (slt T n a b) i || slt T n a b i) from rfl, show anyU (sgt T n a b) (i + 1) = (anyU (sgt T n a b) i || sgt T n a b i) from rfl] at w
        have first : ∀ v, (anyU (sgt T n a b) i || sgt T n a b i) = v → WP G (d + 4) mX7_isBetter (pI K) 121 [some (.ref 89), some (.int (nI a)), some (.int (nI b)), some (.int (nI n)), some (.int (bI v)), some (.int (bI (anyU (slt T n a b) i))), some (.int (nI i))] [] h2 := by
          intro v hv
          rw [hv] at w
          refine wp_iload (pc := 121) (i := 5) dX7_isBetter_121 rfl ?_
          first | (with_reducible show WP _ _ _ _ _ _ (Value.int (bI _) :: _) _; refine wp_if_neB (pc := 123) (tgt := 147) dX7_isBetter_123 (by decide) (fun c123 => ?_) (fun c123 => ?_)) | (with_reducible show WP _ _ _ _ _ _ (Value.int (nI _) :: _) _; refine wp_if_neN (pc := 123) (tgt := 147) dX7_isBetter_123 (by decide) (by omega) (fun c123 => ?_) (fun c123 => ?_)) | refine wp_if_ne (pc := 123) (tgt := 147) dX7_isBetter_123 (by decide) (fun c123 => ?_) (fun c123 => ?_)
          refine wp_iconst (pc := 147) (v := nI 1) dX7_isBetter_147 rfl ?_
          refine wp_goto (pc := 148) (tgt := 152) dX7_isBetter_148 (by decide) ?_
          refine wp_istore (pc := 152) (i := 5) dX7_isBetter_152 rfl (by decide) rfl ?_
          dsimp only [List.set_cons_zero, List.set_cons_succ]
          first | refine wp_iincN (pc := 154) (i := 6) (n := 1) dX7_isBetter_154 rfl rfl (by decide) rfl ?_ | refine wp_iinc (pc := 154) (i := 6) dX7_isBetter_154 rfl rfl rfl (by decide) rfl ?_
          dsimp only [List.set_cons_zero, List.set_cons_succ]
          refine wp_goto (pc := 157) (tgt := 77) dX7_isBetter_157 (by decide) ?_
          rotate_left
          refine wp_aload_n (pc := 126) (i := 0) dX7_isBetter_126 rfl rfl ?_
          refine wp_gfr (pc := 127) fk_X7_7 dX7_isBetter_127 rfl rfl (by decide) ?_
          refine wp_sipush (pc := 130) (v := nI 1517) dX7_isBetter_130 rfl ?_
          refine wp_iload (pc := 133) (i := 6) dX7_isBetter_133 rfl ?_
          first | (with_reducible show WP _ _ _ _ _ _ (Value.int (nI _) :: Value.int (nI _) :: _) _; refine wp_iaddN (pc := 135) dX7_isBetter_135 ?_) | refine wp_iadd (pc := 135) dX7_isBetter_135 ?_
          first | (with_reducible show WP _ _ _ _ _ _ (Value.int (nI _) :: _) _; refine wp_ialdN (pc := 136) dX7_isBetter_136 rfl (by omega) (by first | with_reducible assumption | with_reducible exact hs_same _ _ _ _ | rfl) ?_) | refine wp_iald (pc := 136) dX7_isBetter_136 rfl (by assumption) rfl ?_
          refine wp_aload_n (pc := 137) (i := 0) dX7_isBetter_137 rfl rfl ?_
          refine wp_gfr (pc := 138) fk_X7_38 dX7_isBetter_138 rfl rfl (by decide) ?_
          refine wp_iload (pc := 141) (i := 6) dX7_isBetter_141 rfl ?_
          first | (with_reducible show WP _ _ _ _ _ _ (Value.int (nI _) :: _) _; refine wp_ialdN (pc := 143) dX7_isBetter_143 rfl (by omega) (by first | with_reducible assumption | with_reducible exact hs_same _ _ _ _ | rfl) ?_) | refine wp_iald (pc := 143) dX7_isBetter_143 rfl (by assumption) rfl ?_
          first | (with_reducible show WP _ _ _ _ _ _ (Value.int (nI _) :: Value.int (nI _) :: _) _; refine wp_icmp_geN (pc := 144) (tgt := 151) dX7_isBetter_144 (by decide) (by omega) (by omega) (fun c144 => ?_) (fun c144 => ?_)) | refine wp_icmp_ge (pc := 144) (tgt := 151) dX7_isBetter_144 (by decide) (fun c144 => ?_) (fun c144 => ?_)
          refine wp_iconst (pc := 151) (v := nI 0) dX7_isBetter_151 rfl ?_
          refine wp_istore (pc := 152) (i := 5) dX7_isBetter_152 rfl (by decide) rfl ?_
          dsimp only [List.set_cons_zero, List.set_cons_succ]
          first | refine wp_iincN (pc := 154) (i := 6) (n := 1) dX7_isBetter_154 rfl rfl (by decide) rfl ?_ | refine wp_iinc (pc := 154) (i := 6) dX7_isBetter_154 rfl rfl rfl (by decide) rfl ?_
          dsimp only [List.set_cons_zero, List.set_cons_succ]
          refine wp_goto (pc := 157) (tgt := 77) dX7_isBetter_157 (by decide) ?_
          rotate_left
          refine wp_iconst (pc := 147) (v := nI 1) dX7_isBetter_147 rfl ?_
          refine wp_goto (pc := 148) (tgt := 152) dX7_isBetter_148 (by decide) ?_
          refine wp_istore (pc := 152) (i := 5) dX7_isBetter_152 rfl (by decide) rfl ?_
          dsimp only [List.set_cons_zero, List.set_cons_succ]
          first | refine wp_iincN (pc := 154) (i := 6) (n := 1) dX7_isBetter_154 rfl rfl (by decide) rfl ?_ | refine wp_iinc (pc := 154) (i := 6) dX7_isBetter_154 rfl rfl rfl (by decide) rfl ?_
          dsimp only [List.set_cons_zero, List.set_cons_succ]
          refine wp_goto (pc := 157) (tgt := 77) dX7_isBetter_157 (by decide) ?_
          rotate_left
          · rw [c123, Bool.true_or] at w; exact w
          · rw [c123, Bool.false_or, show slt T n a b i = false from decide_eq_false (by omega)] at w; exact w
          · rw [c123, Bool.false_or, show slt T n a b i = true from decide_eq_true (by omega)] at w; exact w
        refine wp_iload (pc := 77) (i := 6) dX7_isBetter_77 rfl ?_
        refine wp_aload_n (pc := 79) (i := 0) dX7_isBetter_79 rfl rfl ?_
        refine wp_gfr (pc := 80) fk_X7_7 dX7_isBetter_80 rfl rfl (by decide) ?_
        refine wp_iconst (pc := 83) (v := nI 0) dX7_isBetter_83 rfl ?_
        first | (with_reducible show WP _ _ _ _ _ _ (Value.int (nI _) :: _) _; refine wp_ialdN (pc := 84) dX7_isBetter_84 rfl (by omega) (by first | with_reducible assumption | with_reducible exact hs_same _ _ _ _ | rfl) ?_) | refine wp_iald (pc := 84) dX7_isBetter_84 rfl (by assumption) rfl ?_
        first | (with_reducible show WP _ _ _ _ _ _ (Value.int (nI _) :: Value.int (nI _) :: _) _; refine wp_icmp_geN (pc := 85) (tgt := 160) dX7_isBetter_85 (by decide) (by omega) (by omega) (fun c85 => ?_) (fun c85 => ?_)) | refine wp_icmp_ge (pc := 85) (tgt := 160) dX7_isBetter_85 (by decide) (fun c85 => ?_) (fun c85 => ?_)
        rotate_left
        refine wp_iload (pc := 88) (i := 4) dX7_isBetter_88 rfl ?_
        first | (with_reducible show WP _ _ _ _ _ _ (Value.int (bI _) :: _) _; refine wp_if_neB (pc := 90) (tgt := 114) dX7_isBetter_90 (by decide) (fun c90 => ?_) (fun c90 => ?_)) | (with_reducible show WP _ _ _ _ _ _ (Value.int (nI _) :: _) _; refine wp_if_neN (pc := 90) (tgt := 114) dX7_isBetter_90 (by decide) (by omega) (fun c90 => ?_) (fun c90 => ?_)) | refine wp_if_ne (pc := 90) (tgt := 114) dX7_isBetter_90 (by decide) (fun c90 => ?_) (fun c90 => ?_)
        refine wp_iconst (pc := 114) (v := nI 1) dX7_isBetter_114 rfl ?_
        refine wp_goto (pc := 115) (tgt := 119) dX7_isBetter_115 (by decide) ?_
        refine wp_istore (pc := 119) (i := 4) dX7_isBetter_119 rfl (by decide) rfl ?_
        dsimp only [List.set_cons_zero, List.set_cons_succ]
        rotate_left
        refine wp_aload_n (pc := 93) (i := 0) dX7_isBetter_93 rfl rfl ?_
        refine wp_gfr (pc := 94) fk_X7_7 dX7_isBetter_94 rfl rfl (by decide) ?_
        refine wp_sipush (pc := 97) (v := nI 1517) dX7_isBetter_97 rfl ?_
        refine wp_iload (pc := 100) (i := 6) dX7_isBetter_100 rfl ?_
        first | (with_reducible show WP _ _ _ _ _ _ (Value.int (nI _) :: Value.int (nI _) :: _) _; refine wp_iaddN (pc := 102) dX7_isBetter_102 ?_) | refine wp_iadd (pc := 102) dX7_isBetter_102 ?_
        first | (with_reducible show WP _ _ _ _ _ _ (Value.int (nI _) :: _) _; refine wp_ialdN (pc := 103) dX7_isBetter_103 rfl (by omega) (by first | with_reducible assumption | with_reducible exact hs_same _ _ _ _ | rfl) ?_) | refine wp_iald (pc := 103) dX7_isBetter_103 rfl (by assumption) rfl ?_
        refine wp_aload_n (pc := 104) (i := 0) dX7_isBetter_104 rfl rfl ?_
        refine wp_gfr (pc := 105) fk_X7_38 dX7_isBetter_105 rfl rfl (by decide) ?_
        refine wp_iload (pc := 108) (i := 6) dX7_isBetter_108 rfl ?_
        first | (with_reducible show WP _ _ _ _ _ _ (Value.int (nI _) :: _) _; refine wp_ialdN (pc := 110) dX7_isBetter_110 rfl (by omega) (by first | with_reducible assumption | with_reducible exact hs_same _ _ _ _ | rfl) ?_) | refine wp_iald (pc := 110) dX7_isBetter_110 rfl (by assumption) rfl ?_
        first | (with_reducible show WP _ _ _ _ _ _ (Value.int (nI _) :: Value.int (nI _) :: _) _; refine wp_icmp_leN (pc := 111) (tgt := 118) dX7_isBetter_111 (by decide) (by omega) (by omega) (fun c111 => ?_) (fun c111 => ?_)) | refine wp_icmp_le (pc := 111) (tgt := 118) dX7_isBetter_111 (by decide) (fun c111 => ?_) (fun c111 => ?_)
        refine wp_iconst (pc := 118) (v := nI 0) dX7_isBetter_118 rfl ?_
        refine wp_istore (pc := 119) (i := 4) dX7_isBetter_119 rfl (by decide) rfl ?_
        dsimp only [List.set_cons_zero, List.set_cons_succ]
        rotate_left
        refine wp_iconst (pc := 114) (v := nI 1) dX7_isBetter_114 rfl ?_
        refine wp_goto (pc := 115) (tgt := 119) dX7_isBetter_115 (by decide) ?_
        refine wp_istore (pc := 119) (i := 4) dX7_isBetter_119 rfl (by decide) rfl ?_
        dsimp only [List.set_cons_zero, List.set_cons_succ]
        rotate_left
        · exact absurd him (by omega)
        · exact first true (by rw [c90, Bool.true_or])
        · exact first false (by rw [c90, Bool.false_or]; exact decide_eq_false (by omega))
        · exact first true (by rw [c90, Bool.false_or]; exact decide_eq_true (by omega))
    refine wp_iconst (pc := 68) (v := nI 0) dX7_isBetter_68 rfl ?_
    refine wp_istore (pc := 69) (i := 4) dX7_isBetter_69 rfl (by decide) rfl ?_
    dsimp only [List.set_cons_zero, List.set_cons_succ]
    refine wp_iconst (pc := 71) (v := nI 0) dX7_isBetter_71 rfl ?_
    refine wp_istore (pc := 72) (i := 5) dX7_isBetter_72 rfl (by decide) rfl ?_
    dsimp only [List.set_cons_zero, List.set_cons_succ]
    refine wp_iconst (pc := 74) (v := nI 0) dX7_isBetter_74 rfl ?_
    refine wp_istore (pc := 75) (i := 6) dX7_isBetter_75 rfl (by decide) rfl ?_
    dsimp only [List.set_cons_zero, List.set_cons_succ]
    rotate_left
    exact loop (T 0) 0 (by omega)
  have days : ∀ j i h2 L5 L6, i + j = n → RW h2 1512 (itP (swT T a b) i) → FB h h2 1512 → WP G (d + 4) mX7_isBetter (pI K) 49 [some (.ref 89), some (.int (nI a)), some (.int (nI b)), some (.int (nI n)), some (.int (nI i)), L5, L6] [] h2 := by
    intro j
    induction j with
    | zero =>
      intro i h2 L5 L6 hij hR2 hf2
      refine wp_iload (pc := 49) (i := 4) dX7_isBetter_49 rfl ?_
      refine wp_iload_n (pc := 51) (i := 3) dX7_isBetter_51 rfl rfl ?_
      first | (with_reducible show WP _ _ _ _ _ _ (Value.int (nI _) :: Value.int (nI _) :: _) _; refine wp_icmp_geN (pc := 52) (tgt := 68) dX7_isBetter_52 (by decide) (by omega) (by omega) (fun c52 => ?_) (fun c52 => ?_)) | refine wp_icmp_ge (pc := 52) (tgt := 68) dX7_isBetter_52 (by decide) (fun c52 => ?_) (fun c52 => ?_)
      rotate_left
      rotate_left
      · rw [show i = n by omega] at hR2; exact scan h2 _ _ _ hR2 hf2
      · exact absurd hij (by omega)
    | succ j ih =>
      intro i h2 L5 L6 hij hR2 hf2
      obtain ⟨p1, p2, p3⟩ := itP_keep q1 (by omega) i (by omega)
      refine wp_iload (pc := 49) (i := 4) dX7_isBetter_49 rfl ?_
      refine wp_iload_n (pc := 51) (i := 3) dX7_isBetter_51 rfl rfl ?_
      first | (with_reducible show WP _ _ _ _ _ _ (Value.int (nI _) :: Value.int (nI _) :: _) _; refine wp_icmp_geN (pc := 52) (tgt := 68) dX7_isBetter_52 (by decide) (by omega) (by omega) (fun c52 => ?_) (fun c52 => ?_)) | refine wp_icmp_ge (pc := 52) (tgt := 68) dX7_isBetter_52 (by decide) (fun c52 => ?_) (fun c52 => ?_)
      rotate_left
      refine wp_aload_n (pc := 55) (i := 0) dX7_isBetter_55 rfl rfl ?_
      refine wp_sipush (pc := 56) (v := nI 1512) dX7_isBetter_56 rfl ?_
      refine wp_cV1v (pc := 59) lk_X7_172 dX7_isBetter_59 rfl rfl rfl (sp7_pass hR2 p1 (by omega) (by rw [p3 1 (by omega), q3]; omega) (by omega) (fun h3 hR3 hf3 => ?_))
      first | refine wp_iincN (pc := 62) (i := 4) (n := 1) dX7_isBetter_62 rfl rfl (by decide) rfl ?_ | refine wp_iinc (pc := 62) (i := 4) dX7_isBetter_62 rfl rfl rfl (by decide) rfl ?_
      dsimp only [List.set_cons_zero, List.set_cons_succ]
      refine wp_goto (pc := 65) (tgt := 49) dX7_isBetter_65 (by decide) ?_
      rotate_left
      · exact absurd hij (by omega)
      · exact ih (i + 1) h3 _ _ (by omega) hR3 (hf2.tr hf3)
  refine wp_aload_n (pc := 8) (i := 0) dX7_isBetter_8 rfl rfl ?_
  refine wp_gfr (pc := 9) fk_X7_7 dX7_isBetter_9 rfl rfl (by decide) ?_
  refine wp_sipush (pc := 12) (v := nI 1544) dX7_isBetter_12 rfl ?_
  refine wp_iload_n (pc := 15) (i := 1) dX7_isBetter_15 rfl rfl ?_
  first | (with_reducible show WP _ _ _ _ _ _ (Value.int (nI _) :: Value.int (nI _) :: _) _; refine wp_iaddN (pc := 16) dX7_isBetter_16 ?_) | refine wp_iadd (pc := 16) dX7_isBetter_16 ?_
  refine wp_aload_n (pc := 17) (i := 0) dX7_isBetter_17 rfl rfl ?_
  refine wp_gfr (pc := 18) fk_X7_7 dX7_isBetter_18 rfl rfl (by decide) ?_
  refine wp_bipush (pc := 21) (v := nI 32) dX7_isBetter_21 rfl ?_
  refine wp_iload_n (pc := 23) (i := 2) dX7_isBetter_23 rfl rfl ?_
  first | (with_reducible show WP _ _ _ _ _ _ (Value.int (nI _) :: Value.int (nI _) :: _) _; refine wp_iaddN (pc := 24) dX7_isBetter_24 ?_) | refine wp_iadd (pc := 24) dX7_isBetter_24 ?_
  first | (with_reducible show WP _ _ _ _ _ _ (Value.int (nI _) :: _) _; refine wp_ialdN (pc := 25) dX7_isBetter_25 rfl (by omega) (by first | with_reducible assumption | with_reducible exact hs_same _ _ _ _ | rfl) ?_) | refine wp_iald (pc := 25) dX7_isBetter_25 rfl (by assumption) rfl ?_
  first | (with_reducible show WP _ _ _ _ _ _ (_ :: Value.int (nI _) :: _) _; refine wp_iastN (pc := 26) dX7_isBetter_26 rfl (by omega) ?_) | refine wp_iast (pc := 26) dX7_isBetter_26 rfl (by assumption) rfl ?_
  refine wp_aload_n (pc := 27) (i := 0) dX7_isBetter_27 rfl rfl ?_
  refine wp_gfr (pc := 28) fk_X7_7 dX7_isBetter_28 rfl rfl (by decide) ?_
  refine wp_sipush (pc := 31) (v := nI 1544) dX7_isBetter_31 rfl ?_
  refine wp_iload_n (pc := 34) (i := 2) dX7_isBetter_34 rfl rfl ?_
  first | (with_reducible show WP _ _ _ _ _ _ (Value.int (nI _) :: Value.int (nI _) :: _) _; refine wp_iaddN (pc := 35) dX7_isBetter_35 ?_) | refine wp_iadd (pc := 35) dX7_isBetter_35 ?_
  refine wp_aload_n (pc := 36) (i := 0) dX7_isBetter_36 rfl rfl ?_
  refine wp_gfr (pc := 37) fk_X7_7 dX7_isBetter_37 rfl rfl (by decide) ?_
  refine wp_bipush (pc := 40) (v := nI 32) dX7_isBetter_40 rfl ?_
  refine wp_iload_n (pc := 42) (i := 1) dX7_isBetter_42 rfl rfl ?_
  first | (with_reducible show WP _ _ _ _ _ _ (Value.int (nI _) :: Value.int (nI _) :: _) _; refine wp_iaddN (pc := 43) dX7_isBetter_43 ?_) | refine wp_iadd (pc := 43) dX7_isBetter_43 ?_
  first | (with_reducible show WP _ _ _ _ _ _ (Value.int (nI _) :: _) _; refine wp_ialdN (pc := 44) dX7_isBetter_44 rfl (by omega) (by first | with_reducible assumption | with_reducible exact hs_same _ _ _ _ | rfl) ?_) | refine wp_iald (pc := 44) dX7_isBetter_44 rfl (by assumption) rfl ?_
  first | (with_reducible show WP _ _ _ _ _ _ (_ :: Value.int (nI _) :: _) _; refine wp_iastN (pc := 45) dX7_isBetter_45 rfl (by omega) ?_) | refine wp_iast (pc := 45) dX7_isBetter_45 rfl (by assumption) rfl ?_
  refine wp_iconst (pc := 46) (v := nI 0) dX7_isBetter_46 rfl ?_
  refine wp_istore (pc := 47) (i := 4) dX7_isBetter_47 rfl (by decide) rfl ?_
  dsimp only [List.set_cons_zero, List.set_cons_succ]
  rotate_left
  exact days n 0 _ _ _ (by omega) w3 hf3
theorem g1_le (T : Tn) (n a b : Nat) : (g1 T n a b).1 ≤ 1 := by unfold g1; split; exact Nat.le_refl 1; exact Nat.zero_le 1
theorem co_le (T : Tn) (n : Nat) : ∀ m a, a + m = T 1 → (co T n a m).1 ≤ T 1 * m
  | 0, _, _ => Nat.zero_le _
  | m + 1, a, h => by
    have h1 := ci_le T n a (T 1 - (a + 1)) (a + 1)
    have h2 := co_le T n m (a + 1) (by omega)
    show (ci T n a (a + 1) (T 1 - (a + 1))).1 + (co T n (a + 1) m).1 ≤ _
    rw [Nat.mul_succ]
    omega
/-- the pairs from b on, then the pairs of those behind a -/
theorem sr_swaps {n w : Int32} {K : Int32 → Hp → Prop} (hR : RW h 0 T) (hI : RT h T) (hO : OKT T) (hd : T 4 ≤ 999) (k : ∀ h', SR h h' → K (fSwaps T n w) h') : Call G (d + 5) mX7_swaps [.ref 89, .int n, .int w] h (pI K) := by
  obtain ⟨o0, o1, o2, o3, o4, o5, o6, o7, o8⟩ := id hO
  refine Call.of (M := mX7_swaps) (n := 5) (by decide +kernel) rfl ?_
  show WP _ _ _ _ 0 [some (.ref 89), some (.int n), some (.int w), none, none, none, none, none] [] _
  rcases hI.c with ⟨z, e1⟩ | ⟨z, e1⟩
  · rw [fSwaps, if_pos z] at k
    refine wp_aload_n (pc := 0) (i := 0) dX7_swaps_0 rfl rfl ?_
    refine wp_gfv (pc := 1) fk_X7_136 dX7_swaps_1 rfl rfl (by first | with_reducible assumption | with_reducible exact hs_same _ _ _ _ | rfl) ?_
    first | (with_reducible show WP _ _ _ _ _ _ (Value.int (bI _) :: _) _; refine wp_if_neB (pc := 4) (tgt := 10) dX7_swaps_4 (by decide) (fun c4 => ?_) (fun c4 => ?_)) | (with_reducible show WP _ _ _ _ _ _ (Value.int (nI _) :: _) _; refine wp_if_neN (pc := 4) (tgt := 10) dX7_swaps_4 (by decide) (by omega) (fun c4 => ?_) (fun c4 => ?_)) | refine wp_if_ne (pc := 4) (tgt := 10) dX7_swaps_4 (by decide) (fun c4 => ?_) (fun c4 => ?_)
    rotate_left
    refine wp_ldc (pc := 7) kn_X7_143 dX7_swaps_7 ?_
    refine wp_iret (pc := 9) dX7_swaps_9 rfl ?_
    rotate_left
    · exact absurd rfl c4
    · exact k h (SR.rf h)
  rw [fSwaps, if_neg (by omega)] at k
  refine wp_aload_n (pc := 0) (i := 0) dX7_swaps_0 rfl rfl ?_
  refine wp_gfv (pc := 1) fk_X7_136 dX7_swaps_1 rfl rfl (by first | with_reducible assumption | with_reducible exact hs_same _ _ _ _ | rfl) ?_
  first | (with_reducible show WP _ _ _ _ _ _ (Value.int (bI _) :: _) _; refine wp_if_neB (pc := 4) (tgt := 10) dX7_swaps_4 (by decide) (fun c4 => ?_) (fun c4 => ?_)) | (with_reducible show WP _ _ _ _ _ _ (Value.int (nI _) :: _) _; refine wp_if_neN (pc := 4) (tgt := 10) dX7_swaps_4 (by decide) (by omega) (fun c4 => ?_) (fun c4 => ?_)) | refine wp_if_ne (pc := 4) (tgt := 10) dX7_swaps_4 (by decide) (fun c4 => ?_) (fun c4 => ?_)
  refine wp_iload_n (pc := 10) (i := 1) dX7_swaps_10 rfl rfl ?_
  first | (with_reducible show WP _ _ _ _ _ _ (Value.int (nI _) :: _) _; refine wp_i2lN (pc := 11) dX7_swaps_11 (by omega) ?_) | refine wp_i2l (pc := 11) dX7_swaps_11 rfl ?_
  refine wp_lconst (pc := 12) (v := lN 1) dX7_swaps_12 rfl ?_
  refine wp_ldc2 (pc := 13) kn_X7_179 dX7_swaps_13 ?_
  refine wp_cS3i (pc := 16) lk_X7_48 dX7_swaps_16 rfl (sp7_btw (by decide) (by decide) ?_)
  first | (with_reducible show WP _ _ _ _ _ _ (Value.int (bI _) :: _) _; refine wp_if_eqB (pc := 19) (tgt := 32) dX7_swaps_19 (by decide) (fun c19 => ?_) (fun c19 => ?_)) | (with_reducible show WP _ _ _ _ _ _ (Value.int (nI _) :: _) _; refine wp_if_eqN (pc := 19) (tgt := 32) dX7_swaps_19 (by decide) (by omega) (fun c19 => ?_) (fun c19 => ?_)) | refine wp_if_eq (pc := 19) (tgt := 32) dX7_swaps_19 (by decide) (fun c19 => ?_) (fun c19 => ?_)
  refine wp_ldc (pc := 32) kn_X7_58 dX7_swaps_32 ?_
  refine wp_iret (pc := 34) dX7_swaps_34 rfl ?_
  rotate_left
  refine wp_iload_n (pc := 22) (i := 2) dX7_swaps_22 rfl rfl ?_
  first | (with_reducible show WP _ _ _ _ _ _ (Value.int (nI _) :: _) _; refine wp_i2lN (pc := 23) dX7_swaps_23 (by omega) ?_) | refine wp_i2l (pc := 23) dX7_swaps_23 rfl ?_
  refine wp_lconst (pc := 24) (v := lN 0) dX7_swaps_24 rfl ?_
  refine wp_lconst (pc := 25) (v := lN 1) dX7_swaps_25 rfl ?_
  refine wp_cS3i (pc := 26) lk_X7_48 dX7_swaps_26 rfl (sp7_btw (by decide) (by decide) ?_)
  first | (with_reducible show WP _ _ _ _ _ _ (Value.int (bI _) :: _) _; refine wp_if_neB (pc := 29) (tgt := 35) dX7_swaps_29 (by decide) (fun c29 => ?_) (fun c29 => ?_)) | (with_reducible show WP _ _ _ _ _ _ (Value.int (nI _) :: _) _; refine wp_if_neN (pc := 29) (tgt := 35) dX7_swaps_29 (by decide) (by omega) (fun c29 => ?_) (fun c29 => ?_)) | refine wp_if_ne (pc := 29) (tgt := 35) dX7_swaps_29 (by decide) (fun c29 => ?_) (fun c29 => ?_)
  rotate_left
  refine wp_ldc (pc := 32) kn_X7_58 dX7_swaps_32 ?_
  refine wp_iret (pc := 34) dX7_swaps_34 rfl ?_
  rotate_left
  rotate_left
  · rw [c19] at k; exact k h (SR.rf h)
  rotate_left
  · rw [c19, c29] at k; exact k h (SR.rf h)
  · exact absurd c4 (by decide)
  rw [c19, c29] at k
  obtain ⟨m, -, hm, rfl⟩ := btw_t (by decide) c19
  obtain ⟨u, -, hu, rfl⟩ := btw_t (by decide) c29
  rw [nI_clamp (by omega)] at k
  have em : nI u = nI 0 ↔ u = 0 := nI_eq (by omega) (by decide)
  obtain ⟨i1, i2, i3⟩ := itP_keep hO (by omega) m (by omega)
  have e91 : h 90 1 = nI (T 1) := hR 1 (by omega)
  have FQ : ∀ {h1 h2 : Hp}, SR h h1 → FB h1 h2 1512 → SR h h2 := fun a b => a.tr b.sr
  have rest : ∀ j h1 L6 L7, j ≤ T 1 → SR h h1 → (∀ c, c < T 0 → h1 99 c = nI (itP T m (5 + c))) → ∀ A : Int32, (j = 0 → A = kM1) → (∀ a, j = a + 1 → A = nI a) → WP G (d + 5) mX7_swaps (pI K) 85 [some (.ref 89), some (.int (nI m)), some (.int (nI u)), some (.int (nI (co T m j (T 1 - j)).1)), some (.int (oI (co T m j (T 1 - j)).2)), some (.int A), L6, L7] [] h1 := by
    intro j
    induction j with
    | zero =>
      intro h1 L6 L7 hj hs1 hu1 A hA0 _
      rw [hA0 rfl]
      have kk := k h1 hs1
      rw [Nat.sub_zero]
      refine wp_iload (pc := 85) (i := 5) dX7_swaps_85 rfl ?_
      rotate_left
      refine wp_if_lt (pc := 87) (tgt := 163) dX7_swaps_87 (by decide) (fun c87 => ?_) (fun c87 => absurd (by decide) c87)
      refine wp_iload_n (pc := 163) (i := 2) dX7_swaps_163 rfl rfl ?_
      first | (with_reducible show WP _ _ _ _ _ _ (Value.int (bI _) :: _) _; refine wp_if_neB (pc := 164) (tgt := 171) dX7_swaps_164 (by decide) (fun c164 => ?_) (fun c164 => ?_)) | (with_reducible show WP _ _ _ _ _ _ (Value.int (nI _) :: _) _; refine wp_if_neN (pc := 164) (tgt := 171) dX7_swaps_164 (by decide) (by omega) (fun c164 => ?_) (fun c164 => ?_)) | refine wp_if_ne (pc := 164) (tgt := 171) dX7_swaps_164 (by decide) (fun c164 => ?_) (fun c164 => ?_)
      refine wp_iload (pc := 171) (i := 4) dX7_swaps_171 rfl ?_
      refine wp_iret (pc := 173) dX7_swaps_173 rfl ?_
      rotate_left
      refine wp_iload_n (pc := 167) (i := 3) dX7_swaps_167 rfl rfl ?_
      refine wp_goto (pc := 168) (tgt := 173) dX7_swaps_168 (by decide) ?_
      refine wp_iret (pc := 173) dX7_swaps_173 rfl ?_
      rotate_left
      · rw [if_neg (fun q => c164 (em.mp q))] at kk; exact kk
      · rw [if_pos (em.mpr c164)] at kk; exact kk
    | succ a ih =>
      intro h1 L6 L7 hj hs1 hu1 A _ hA
      rw [hA a rfl]
      have inner : ∀ q b h1 L7, b = a + q → b < T 1 → SR h h1 → (∀ c, c < T 0 → h1 99 c = nI (itP T m (5 + c))) → ∀ S, S = comb (ci T m a (b + 1) (T 1 - (b + 1))) (co T m (a + 1) (T 1 - (a + 1))) → WP G (d + 5) mX7_swaps (pI K) 100 [some (.ref 89), some (.int (nI m)), some (.int (nI u)), some (.int (nI S.1)), some (.int (oI S.2)), some (.int (nI a)), some (.int (nI b)), L7] [] h1 := by
        intro q
        induction q with
        | zero =>
          intro b h1 L7 hb hb1 hs1 hu1 S hS
          have fin := ih h1 (some (.int (nI b))) L7 (by omega) hs1 hu1
          rw [show T 1 - a = (T 1 - (a + 1)) + 1 by omega, show co T m a (T 1 - (a + 1) + 1) = comb (ci T m a (a + 1) (T 1 - (a + 1))) (co T m (a + 1) (T 1 - (a + 1))) from rfl] at fin
          rw [show b = a by omega] at hS
          rw [← hS] at fin
          by_cases z0 : a = 0
          · subst z0
            refine wp_iload (pc := 100) (i := 6) dX7_swaps_100 rfl ?_
            refine wp_iload (pc := 102) (i := 5) dX7_swaps_102 rfl ?_
            first | (with_reducible show WP _ _ _ _ _ _ (Value.int (nI _) :: Value.int (nI _) :: _) _; refine wp_icmp_leN (pc := 104) (tgt := 157) dX7_swaps_104 (by decide) (by omega) (by omega) (fun c104 => ?_) (fun c104 => ?_)) | refine wp_icmp_le (pc := 104) (tgt := 157) dX7_swaps_104 (by decide) (fun c104 => ?_) (fun c104 => ?_)
            rotate_left
            rotate_left
            · refine wp_iinc (pc := 157) (i := 5) (v := kM1) dX7_swaps_157 rfl (by decide) rfl (by decide) rfl ?_
              refine wp_goto (pc := 160) (tgt := 85) dX7_swaps_160 (by decide) ?_
              rotate_left
              exact fin kM1 (fun _ => rfl) (fun a h => by omega)
            · exact absurd hb (by omega)
          · refine wp_iload (pc := 100) (i := 6) dX7_swaps_100 rfl ?_
            refine wp_iload (pc := 102) (i := 5) dX7_swaps_102 rfl ?_
            first | (with_reducible show WP _ _ _ _ _ _ (Value.int (nI _) :: Value.int (nI _) :: _) _; refine wp_icmp_leN (pc := 104) (tgt := 157) dX7_swaps_104 (by decide) (by omega) (by omega) (fun c104 => ?_) (fun c104 => ?_)) | refine wp_icmp_le (pc := 104) (tgt := 157) dX7_swaps_104 (by decide) (fun c104 => ?_) (fun c104 => ?_)
            first | refine wp_idecN (pc := 157) (i := 5) dX7_swaps_157 rfl (by omega) rfl (by decide) rfl ?_ | refine wp_iinc (pc := 157) (i := 5) dX7_swaps_157 rfl rfl rfl (by decide) rfl ?_
            dsimp only [List.set_cons_zero, List.set_cons_succ]
            refine wp_goto (pc := 160) (tgt := 85) dX7_swaps_160 (by decide) ?_
            rotate_left
            rotate_left
            · exact fin _ (fun h => absurd h z0) (fun a' h => by rw [h]; rfl)
            · exact absurd hb (by omega)
        | succ q ihq =>
          intro b h1 L7 hb hb1 hs1 hu1 S hS
          have hR1 : RW h1 0 T := hR.cg (fun k _ _ => hs1.2.1 k (by omega))
          have es : ci T m a b (T 1 - b) = comb (g1 T m a b) (ci T m a (b + 1) (T 1 - (b + 1))) := by rw [show T 1 - b = (T 1 - (b + 1)) + 1 by omega]; rfl
          refine wp_iload (pc := 100) (i := 6) dX7_swaps_100 rfl ?_
          refine wp_iload (pc := 102) (i := 5) dX7_swaps_102 rfl ?_
          first | (with_reducible show WP _ _ _ _ _ _ (Value.int (nI _) :: Value.int (nI _) :: _) _; refine wp_icmp_leN (pc := 104) (tgt := 157) dX7_swaps_104 (by decide) (by omega) (by omega) (fun c104 => ?_) (fun c104 => ?_)) | refine wp_icmp_le (pc := 104) (tgt := 157) dX7_swaps_104 (by decide) (fun c104 => ?_) (fun c104 => ?_)
          rotate_left
          refine wp_aload_n (pc := 107) (i := 0) dX7_swaps_107 rfl rfl ?_
          refine wp_iload (pc := 108) (i := 5) dX7_swaps_108 rfl ?_
          refine wp_iload (pc := 110) (i := 6) dX7_swaps_110 rfl ?_
          refine wp_iload_n (pc := 112) (i := 1) dX7_swaps_112 rfl rfl ?_
          refine wp_cV3i (pc := 113) lk_X7_221 dX7_swaps_113 rfl rfl rfl (sp7_isBetter hR1 hO (by omega) (by omega) hm hd hu1 (fun h2 hf2 => ?_))
          rotate_left
          · exact absurd hb (by omega)
          have w := fun L7 => ihq (b - 1) h2 L7 (by omega) (by omega) (FQ hs1 hf2) (fun c hc => by rw [hf2.1 99 (by decide)]; exact hu1 c hc) (comb (g1 T m a b) S) (by rw [show b - 1 + 1 = b by omega, es, hS, comb_as])
          refine wp_istore (pc := 116) (i := 7) dX7_swaps_116 rfl (by decide) rfl ?_
          dsimp only [List.set_cons_zero, List.set_cons_succ]
          refine wp_iload_n (pc := 118) (i := 3) dX7_swaps_118 rfl rfl ?_
          refine wp_iload (pc := 119) (i := 7) dX7_swaps_119 rfl ?_
          first | (with_reducible show WP _ _ _ _ _ _ (Value.int (bI _) :: _) _; refine wp_if_eqB (pc := 121) (tgt := 128) dX7_swaps_121 (by decide) (fun c121 => ?_) (fun c121 => ?_)) | (with_reducible show WP _ _ _ _ _ _ (Value.int (nI _) :: _) _; refine wp_if_eqN (pc := 121) (tgt := 128) dX7_swaps_121 (by decide) (by omega) (fun c121 => ?_) (fun c121 => ?_)) | refine wp_if_eq (pc := 121) (tgt := 128) dX7_swaps_121 (by decide) (fun c121 => ?_) (fun c121 => ?_)
          refine wp_iconst (pc := 128) (v := nI 0) dX7_swaps_128 rfl ?_
          first | (with_reducible show WP _ _ _ _ _ _ (Value.int (nI _) :: Value.int (nI _) :: _) _; refine wp_iaddN (pc := 129) dX7_swaps_129 ?_) | refine wp_iadd (pc := 129) dX7_swaps_129 ?_
          refine wp_istore_n (pc := 130) (i := 3) dX7_swaps_130 rfl rfl (by decide) rfl ?_
          dsimp only [List.set_cons_zero, List.set_cons_succ]
          refine wp_iload (pc := 131) (i := 7) dX7_swaps_131 rfl ?_
          first | (with_reducible show WP _ _ _ _ _ _ (Value.int (bI _) :: _) _; refine wp_if_eqB (pc := 133) (tgt := 147) dX7_swaps_133 (by decide) (fun c133 => ?_) (fun c133 => ?_)) | (with_reducible show WP _ _ _ _ _ _ (Value.int (nI _) :: _) _; refine wp_if_eqN (pc := 133) (tgt := 147) dX7_swaps_133 (by decide) (by omega) (fun c133 => ?_) (fun c133 => ?_)) | refine wp_if_eq (pc := 133) (tgt := 147) dX7_swaps_133 (by decide) (fun c133 => ?_) (fun c133 => ?_)
          refine wp_iload (pc := 147) (i := 4) dX7_swaps_147 rfl ?_
          refine wp_istore (pc := 149) (i := 4) dX7_swaps_149 rfl (by decide) rfl ?_
          dsimp only [List.set_cons_zero, List.set_cons_succ]
          first | refine wp_idecN (pc := 151) (i := 6) dX7_swaps_151 rfl (by omega) rfl (by decide) rfl ?_ | refine wp_iinc (pc := 151) (i := 6) dX7_swaps_151 rfl rfl rfl (by decide) rfl ?_
          dsimp only [List.set_cons_zero, List.set_cons_succ]
          refine wp_goto (pc := 154) (tgt := 100) dX7_swaps_154 (by decide) ?_
          rotate_left
          refine wp_bipush (pc := 136) (v := nI 10) dX7_swaps_136 rfl ?_
          refine wp_iload (pc := 138) (i := 5) dX7_swaps_138 rfl ?_
          first | (with_reducible show WP _ _ _ _ _ _ (Value.int (nI _) :: Value.int (nI _) :: _) _; refine wp_imulN (pc := 140) dX7_swaps_140 ?_) | refine wp_imul (pc := 140) dX7_swaps_140 ?_
          refine wp_iload (pc := 141) (i := 6) dX7_swaps_141 rfl ?_
          first | (with_reducible show WP _ _ _ _ _ _ (Value.int (nI _) :: Value.int (nI _) :: _) _; refine wp_iaddN (pc := 143) dX7_swaps_143 ?_) | refine wp_iadd (pc := 143) dX7_swaps_143 ?_
          refine wp_goto (pc := 144) (tgt := 149) dX7_swaps_144 (by decide) ?_
          refine wp_istore (pc := 149) (i := 4) dX7_swaps_149 rfl (by decide) rfl ?_
          dsimp only [List.set_cons_zero, List.set_cons_succ]
          first | refine wp_idecN (pc := 151) (i := 6) dX7_swaps_151 rfl (by omega) rfl (by decide) rfl ?_ | refine wp_iinc (pc := 151) (i := 6) dX7_swaps_151 rfl rfl rfl (by decide) rfl ?_
          dsimp only [List.set_cons_zero, List.set_cons_succ]
          refine wp_goto (pc := 154) (tgt := 100) dX7_swaps_154 (by decide) ?_
          rotate_left
          refine wp_iconst (pc := 124) (v := nI 1) dX7_swaps_124 rfl ?_
          refine wp_goto (pc := 125) (tgt := 129) dX7_swaps_125 (by decide) ?_
          first | (with_reducible show WP _ _ _ _ _ _ (Value.int (nI _) :: Value.int (nI _) :: _) _; refine wp_iaddN (pc := 129) dX7_swaps_129 ?_) | refine wp_iadd (pc := 129) dX7_swaps_129 ?_
          refine wp_istore_n (pc := 130) (i := 3) dX7_swaps_130 rfl rfl (by decide) rfl ?_
          dsimp only [List.set_cons_zero, List.set_cons_succ]
          refine wp_iload (pc := 131) (i := 7) dX7_swaps_131 rfl ?_
          first | (with_reducible show WP _ _ _ _ _ _ (Value.int (bI _) :: _) _; refine wp_if_eqB (pc := 133) (tgt := 147) dX7_swaps_133 (by decide) (fun c133 => ?_) (fun c133 => ?_)) | (with_reducible show WP _ _ _ _ _ _ (Value.int (nI _) :: _) _; refine wp_if_eqN (pc := 133) (tgt := 147) dX7_swaps_133 (by decide) (by omega) (fun c133 => ?_) (fun c133 => ?_)) | refine wp_if_eq (pc := 133) (tgt := 147) dX7_swaps_133 (by decide) (fun c133 => ?_) (fun c133 => ?_)
          refine wp_iload (pc := 147) (i := 4) dX7_swaps_147 rfl ?_
          refine wp_istore (pc := 149) (i := 4) dX7_swaps_149 rfl (by decide) rfl ?_
          dsimp only [List.set_cons_zero, List.set_cons_succ]
          first | refine wp_idecN (pc := 151) (i := 6) dX7_swaps_151 rfl (by omega) rfl (by decide) rfl ?_ | refine wp_iinc (pc := 151) (i := 6) dX7_swaps_151 rfl rfl rfl (by decide) rfl ?_
          dsimp only [List.set_cons_zero, List.set_cons_succ]
          refine wp_goto (pc := 154) (tgt := 100) dX7_swaps_154 (by decide) ?_
          rotate_left
          refine wp_bipush (pc := 136) (v := nI 10) dX7_swaps_136 rfl ?_
          refine wp_iload (pc := 138) (i := 5) dX7_swaps_138 rfl ?_
          first | (with_reducible show WP _ _ _ _ _ _ (Value.int (nI _) :: Value.int (nI _) :: _) _; refine wp_imulN (pc := 140) dX7_swaps_140 ?_) | refine wp_imul (pc := 140) dX7_swaps_140 ?_
          refine wp_iload (pc := 141) (i := 6) dX7_swaps_141 rfl ?_
          first | (with_reducible show WP _ _ _ _ _ _ (Value.int (nI _) :: Value.int (nI _) :: _) _; refine wp_iaddN (pc := 143) dX7_swaps_143 ?_) | refine wp_iadd (pc := 143) dX7_swaps_143 ?_
          refine wp_goto (pc := 144) (tgt := 149) dX7_swaps_144 (by decide) ?_
          refine wp_istore (pc := 149) (i := 4) dX7_swaps_149 rfl (by decide) rfl ?_
          dsimp only [List.set_cons_zero, List.set_cons_succ]
          first | refine wp_idecN (pc := 151) (i := 6) dX7_swaps_151 rfl (by omega) rfl (by decide) rfl ?_ | refine wp_iinc (pc := 151) (i := 6) dX7_swaps_151 rfl rfl rfl (by decide) rfl ?_
          dsimp only [List.set_cons_zero, List.set_cons_succ]
          refine wp_goto (pc := 154) (tgt := 100) dX7_swaps_154 (by decide) ?_
          rotate_left
          · rw [show g1 T m a b = (0, none) by unfold g1; rw [c121]; rfl, comb_0l] at w; exact w _
          · rw [c121] at c133; exact absurd c133 (by decide)
          · rw [c121] at c133; exact absurd c133 (by decide)
          · rw [show g1 T m a b = (1, some (10 * a + b)) by unfold g1; rw [c121]; rfl, show comb (1, some (10 * a + b)) S = (S.1 + 1, some (10 * a + b)) by unfold comb; rw [Nat.add_comm]; rfl] at w; exact w _
      have e1 : h1 90 1 = nI (T 1) := by rw [hs1.2.1 1 (by omega)]; exact e91
      refine wp_iload (pc := 85) (i := 5) dX7_swaps_85 rfl ?_
      first | (with_reducible show WP _ _ _ _ _ _ (Value.int (nI _) :: _) _; refine wp_if_ltN (pc := 87) (tgt := 163) dX7_swaps_87 (by decide) (by omega) (fun c87 => ?_) (fun c87 => ?_)) | refine wp_if_lt (pc := 87) (tgt := 163) dX7_swaps_87 (by decide) (fun c87 => ?_) (fun c87 => ?_)
      rotate_left
      refine wp_aload_n (pc := 90) (i := 0) dX7_swaps_90 rfl rfl ?_
      refine wp_gfr (pc := 91) fk_X7_7 dX7_swaps_91 rfl rfl (by decide) ?_
      refine wp_iconst (pc := 94) (v := nI 1) dX7_swaps_94 rfl ?_
      first | (with_reducible show WP _ _ _ _ _ _ (Value.int (nI _) :: _) _; refine wp_ialdN (pc := 95) dX7_swaps_95 rfl (by omega) (by first | with_reducible assumption | with_reducible exact hs_same _ _ _ _ | rfl) ?_) | refine wp_iald (pc := 95) dX7_swaps_95 rfl (by assumption) rfl ?_
      refine wp_iconst (pc := 96) (v := nI 1) dX7_swaps_96 rfl ?_
      first | (with_reducible show WP _ _ _ _ _ _ (Value.int (nI _) :: Value.int (nI _) :: _) _; refine wp_isubN (pc := 97) dX7_swaps_97 (by omega) ?_) | refine wp_isub (pc := 97) dX7_swaps_97 ?_
      refine wp_istore (pc := 98) (i := 6) dX7_swaps_98 rfl (by decide) rfl ?_
      dsimp only [List.set_cons_zero, List.set_cons_succ]
      rotate_left
      · exact absurd c87 (by omega)
      · exact inner (T 1 - 1 - a) (T 1 - 1) h1 _ (by omega) (by omega) hs1 hu1 _ (by rw [show T 1 - 1 + 1 = T 1 by omega, Nat.sub_self]; exact (comb_0l _).symm)
  have cp : ∀ j i h1 L4 L5 L6 L7, i + j = 5 → RW h1 1512 (itP T m) → SR h h1 → (∀ c, c < i → h1 99 c = nI (itP T m (5 + c))) → WP G (d + 5) mX7_swaps (pI K) 42 [some (.ref 89), some (.int (nI m)), some (.int (nI u)), some (.int (nI i)), L4, L5, L6, L7] [] h1 := by
    intro j
    induction j with
    | zero =>
      intro i h1 L4 L5 L6 L7 hij hR1 hs1 hu1
      have e1 : h1 90 1 = nI (T 1) := by rw [hs1.2.1 1 (by omega)]; exact e91
      refine wp_iload_n (pc := 42) (i := 3) dX7_swaps_42 rfl rfl ?_
      refine wp_iconst (pc := 43) (v := nI 5) dX7_swaps_43 rfl ?_
      first | (with_reducible show WP _ _ _ _ _ _ (Value.int (nI _) :: Value.int (nI _) :: _) _; refine wp_icmp_geN (pc := 44) (tgt := 69) dX7_swaps_44 (by decide) (by omega) (by omega) (fun c44 => ?_) (fun c44 => ?_)) | refine wp_icmp_ge (pc := 44) (tgt := 69) dX7_swaps_44 (by decide) (fun c44 => ?_) (fun c44 => ?_)
      refine wp_iconst (pc := 69) (v := nI 0) dX7_swaps_69 rfl ?_
      refine wp_istore_n (pc := 70) (i := 3) dX7_swaps_70 rfl rfl (by decide) rfl ?_
      dsimp only [List.set_cons_zero, List.set_cons_succ]
      refine wp_ldc (pc := 71) kn_X7_144 dX7_swaps_71 ?_
      refine wp_istore (pc := 73) (i := 4) dX7_swaps_73 rfl (by decide) rfl ?_
      dsimp only [List.set_cons_zero, List.set_cons_succ]
      refine wp_aload_n (pc := 75) (i := 0) dX7_swaps_75 rfl rfl ?_
      refine wp_gfr (pc := 76) fk_X7_7 dX7_swaps_76 rfl rfl (by decide) ?_
      refine wp_iconst (pc := 79) (v := nI 1) dX7_swaps_79 rfl ?_
      first | (with_reducible show WP _ _ _ _ _ _ (Value.int (nI _) :: _) _; refine wp_ialdN (pc := 80) dX7_swaps_80 rfl (by omega) (by first | with_reducible assumption | with_reducible exact hs_same _ _ _ _ | rfl) ?_) | refine wp_iald (pc := 80) dX7_swaps_80 rfl (by assumption) rfl ?_
      refine wp_iconst (pc := 81) (v := nI 1) dX7_swaps_81 rfl ?_
      first | (with_reducible show WP _ _ _ _ _ _ (Value.int (nI _) :: Value.int (nI _) :: _) _; refine wp_isubN (pc := 82) dX7_swaps_82 (by omega) ?_) | refine wp_isub (pc := 82) dX7_swaps_82 ?_
      refine wp_istore (pc := 83) (i := 5) dX7_swaps_83 rfl (by decide) rfl ?_
      dsimp only [List.set_cons_zero, List.set_cons_succ]
      rotate_left
      rotate_left
      · have r := rest (T 1) h1 L6 L7 (Nat.le_refl _) hs1 (fun c hc => hu1 c (by omega)) (nI (T 1 - 1)) (fun h => by omega) (fun a h => by rw [h]; rfl)
        rw [Nat.sub_self] at r
        exact r
      · exact absurd hij (by omega)
    | succ j ih =>
      intro i h1 L4 L5 L6 L7 hij hR1 hs1 hu1
      have e := hR1 (5 + i) (by omega)
      rw [← Nat.add_assoc] at e
      refine wp_iload_n (pc := 42) (i := 3) dX7_swaps_42 rfl rfl ?_
      refine wp_iconst (pc := 43) (v := nI 5) dX7_swaps_43 rfl ?_
      first | (with_reducible show WP _ _ _ _ _ _ (Value.int (nI _) :: Value.int (nI _) :: _) _; refine wp_icmp_geN (pc := 44) (tgt := 69) dX7_swaps_44 (by decide) (by omega) (by omega) (fun c44 => ?_) (fun c44 => ?_)) | refine wp_icmp_ge (pc := 44) (tgt := 69) dX7_swaps_44 (by decide) (fun c44 => ?_) (fun c44 => ?_)
      rotate_left
      refine wp_aload_n (pc := 47) (i := 0) dX7_swaps_47 rfl rfl ?_
      refine wp_gfr (pc := 48) fk_X7_38 dX7_swaps_48 rfl rfl (by decide) ?_
      refine wp_iload_n (pc := 51) (i := 3) dX7_swaps_51 rfl rfl ?_
      refine wp_aload_n (pc := 52) (i := 0) dX7_swaps_52 rfl rfl ?_
      refine wp_gfr (pc := 53) fk_X7_7 dX7_swaps_53 rfl rfl (by decide) ?_
      refine wp_sipush (pc := 56) (v := nI 1517) dX7_swaps_56 rfl ?_
      refine wp_iload_n (pc := 59) (i := 3) dX7_swaps_59 rfl rfl ?_
      first | (with_reducible show WP _ _ _ _ _ _ (Value.int (nI _) :: Value.int (nI _) :: _) _; refine wp_iaddN (pc := 60) dX7_swaps_60 ?_) | refine wp_iadd (pc := 60) dX7_swaps_60 ?_
      first | (with_reducible show WP _ _ _ _ _ _ (Value.int (nI _) :: _) _; refine wp_ialdN (pc := 61) dX7_swaps_61 rfl (by omega) (by first | with_reducible assumption | with_reducible exact hs_same _ _ _ _ | rfl) ?_) | refine wp_iald (pc := 61) dX7_swaps_61 rfl (by assumption) rfl ?_
      first | (with_reducible show WP _ _ _ _ _ _ (_ :: Value.int (nI _) :: _) _; refine wp_iastN (pc := 62) dX7_swaps_62 rfl (by omega) ?_) | refine wp_iast (pc := 62) dX7_swaps_62 rfl (by assumption) rfl ?_
      first | refine wp_iincN (pc := 63) (i := 3) (n := 1) dX7_swaps_63 rfl rfl (by decide) rfl ?_ | refine wp_iinc (pc := 63) (i := 3) dX7_swaps_63 rfl rfl rfl (by decide) rfl ?_
      dsimp only [List.set_cons_zero, List.set_cons_succ]
      refine wp_goto (pc := 66) (tgt := 42) dX7_swaps_66 (by decide) ?_
      rotate_left
      · exact absurd hij (by omega)
      · refine ih (i + 1) _ _ _ _ _ (by omega) (hR1.cg (fun k _ _ => by rw [hs_ne (by decide)])) (hs1.tr ⟨fun a ha => hs_ne (by omega), fun k _ => by rw [hs_ne (by decide)], fun k _ => by rw [hs_ne (by decide)]⟩) (fun c hc => ?_)
        by_cases z : c = i
        · rw [z, hs_same]
        · rw [hs_ix z]; exact hu1 c (by omega)
  refine wp_aload_n (pc := 35) (i := 0) dX7_swaps_35 rfl rfl ?_
  refine wp_iload_n (pc := 36) (i := 1) dX7_swaps_36 rfl rfl ?_
  refine wp_cV1v (pc := 37) lk_X7_197 dX7_swaps_37 rfl rfl rfl (sp7_layTried hR hO z hm (by omega) (fun h1 hR1 hf1 => ?_))
  refine wp_iconst (pc := 40) (v := nI 0) dX7_swaps_40 rfl ?_
  refine wp_istore_n (pc := 41) (i := 3) dX7_swaps_41 rfl rfl (by decide) rfl ?_
  dsimp only [List.set_cons_zero, List.set_cons_succ]
  rotate_left
  exact cp 5 0 h1 _ _ _ _ (by omega) hR1 hf1.sr (fun c hc => absurd hc (by omega))
end RSWAPS
