section RSWAPS
variable {G : Gt} {d : Nat} {h : Hp} {T : Tn}
theorem sp7_isBetter {a b n : Nat} {K : Int32 → Hp → Prop} (hR : RW h 0 T) (hO : OKT T) (ha : a < T 1) (hb : b < T 1) (hn : n ≤ 60) (hd : T 4 ≤ 999) (hu : ∀ c, c < T 0 → h 97 c = nI (itP T n (5 + c))) (k : ∀ h', FB h h' 1512 → K (bI (good T n a b)) h') : Call G (d + 4) mX7_isBetter [.ref 89, .int (nI a), .int (nI b), .int (nI n)] h (pI K) := by
  obtain ⟨o0, o1, o2, o3, o4, o5, o6, o7, o8⟩ := id hO
  obtain ⟨q1, q2, q3, q4⟩ := okt_sw hO ha hb
  obtain ⟨i1, i2, i3⟩ := itP_keep hO (by omega) n (by omega)
  obtain ⟨j1, j2, j3⟩ := itP_keep q1 (by omega) n (by omega)
  refine Call.of (M := mX7_isBetter) (n := 3) (by decide +kernel) rfl ?_
  show WP _ _ _ _ 0 [some (.ref 89), some (.int (nI a)), some (.int (nI b)), some (.int (nI n)), none, none, none] [] _
  refine wp_aload_n (pc := 0) (i := 0) dX7_isBetter_0 rfl rfl ?_
  refine wp_iconst (pc := 1) (v := nI 0) dX7_isBetter_1 rfl ?_
  refine wp_sipush (pc := 2) (v := nI 1512) dX7_isBetter_2 rfl ?_
  refine wp_cV2v (pc := 5) lk_X7_132 dX7_isBetter_5 rfl rfl rfl (sp7_copyTown hR (by omega) (by omega) (by omega) (fun h1 hR1 hf1 => ?_))
  rotate_left
  have s1 : h1 90 (32 + b) = nI (T (32 + b)) := by rw [hf1.2 _ (by omega)]; have := hR (32 + b) (by omega); rw [Nat.zero_add] at this; exact this
  have s2 : hs h1 90 (1544 + a) (nI (T (32 + b))) 90 (32 + a) = nI (T (32 + a)) := by rw [hs_ix (by omega), hf1.2 _ (by omega)]; have := hR (32 + a) (by omega); rw [Nat.zero_add] at this; exact this
  have w2 := RWup (v := T (32 + b)) hR1 (show 32 + a < 56 by omega)
  rw [← Nat.add_assoc] at w2
  have w3 := RWup (v := T (32 + a)) w2 (show 32 + b < 56 by omega)
  rw [← Nat.add_assoc] at w3
  have hf3 : FB h (hs (hs h1 90 (1544 + a) (nI (T (32 + b)))) 90 (1544 + b) (nI (T (32 + a)))) 1512 := (hf1.hs (by omega) (by omega)).hs (by omega) (by omega)
  have w3 : RW (hs (hs h1 90 (1544 + a) (nI (T (32 + b)))) 90 (1544 + b) (nI (T (32 + a)))) 1512 (swT T a b) := w3
  have scan : ∀ h2 L4 L5 L6, RW h2 1512 (itP (swT T a b) n) → FB h h2 1512 → WP G (d + 4) mX7_isBetter (pI K) 68 [some (.ref 89), some (.int (nI a)), some (.int (nI b)), some (.int (nI n)), L4, L5, L6] [] h2 := by
    intro h2 L4 L5 L6 hR2 hf2
    have kk := k h2 hf2
    have r0 : h2 90 0 = nI (T 0) := by rw [hf2.2 0 (by omega)]; exact hR 0 (by omega)
    have r5 : ∀ c, c < T 0 → h2 90 (1517 + c) = nI (itP (swT T a b) n (5 + c)) := fun c hc => by have := hR2 (5 + c) (by omega); rwa [← Nat.add_assoc] at this
    have r9 : ∀ c, c < T 0 → h2 97 c = nI (itP T n (5 + c)) := fun c hc => by rw [hf2.1 97 (by decide)]; exact hu c hc
    have loop : ∀ m i, i + m = T 0 → WP G (d + 4) mX7_isBetter (pI K) 77 [some (.ref 89), some (.int (nI a)), some (.int (nI b)), some (.int (nI n)), some (.int (bI (anyU (sgt T n a b) i))), some (.int (bI (anyU (slt T n a b) i))), some (.int (nI i))] [] h2 := by
      intro m
      induction m with
      | zero =>
        intro i him
        rw [good, show T 0 = i by omega] at kk
        refine wp_iload (pc := 77) (i := 6) dX7_isBetter_77 rfl ?_
        refine wp_aload_n (pc := 79) (i := 0) dX7_isBetter_79 rfl rfl ?_
        refine wp_gfr (pc := 80) fk_X7_7 dX7_isBetter_80 rfl rfl (by decide) ?_
        refine wp_iconst (pc := 83) (v := nI 0) dX7_isBetter_83 rfl ?_
        first | (with_reducible show WP _ _ _ _ _ _ (Value.int (nI _) :: _) _; refine wp_ialdN (pc := 84) dX7_isBetter_84 rfl (by omega) (by first | with_reducible assumption | with_reducible exact hs_same _ _ _ _ | rfl) ?_) | refine wp_iald (pc := 84) dX7_isBetter_84 rfl (by assumption) rfl ?_
        first | (with_reducible show WP _ _ _ _ _ _ (Value.int (nI _) :: Value.int (nI _) :: _) _; refine wp_icmp_geN (pc := 85) (tgt := 160) dX7_isBetter_85 (by decide) (by omega) (by omega) (fun c85 => ?_) (fun c85 => ?_)) | refine wp_icmp_ge (pc := 85) (tgt := 160) dX7_isBetter_85 (by decide) (fun c85 => ?_) (fun c85 => ?_)
        refine wp_iload (pc := 160) (i := 4) dX7_isBetter_160 rfl ?_
        first | (with_reducible show WP _ _ _ _ _ _ (Value.int (bI _) :: _) _; refine wp_if_eqB (pc := 162) (tgt := 174) dX7_isBetter_162 (by decide) (fun c162 => ?_) (fun c162 => ?_)) | (with_reducible show WP _ _ _ _ _ _ (Value.int (nI _) :: _) _; refine wp_if_eqN (pc := 162) (tgt := 174) dX7_isBetter_162 (by decide) (by omega) (fun c162 => ?_) (fun c162 => ?_)) | refine wp_if_eq (pc := 162) (tgt := 174) dX7_isBetter_162 (by decide) (fun c162 => ?_) (fun c162 => ?_)
        refine wp_iconst (pc := 174) (v := nI 0) dX7_isBetter_174 rfl ?_
        refine wp_zret (pc := 175) dX7_isBetter_175 rfl (by first | exact Or.inl rfl | exact Or.inr rfl | assumption | exact bI_01 _) ?_
        rotate_left
        refine wp_iload (pc := 165) (i := 5) dX7_isBetter_165 rfl ?_
        first | (with_reducible show WP _ _ _ _ _ _ (Value.int (bI _) :: _) _; refine wp_if_neB (pc := 167) (tgt := 174) dX7_isBetter_167 (by decide) (fun c167 => ?_) (fun c167 => ?_)) | (with_reducible show WP _ _ _ _ _ _ (Value.int (nI _) :: _) _; refine wp_if_neN (pc := 167) (tgt := 174) dX7_isBetter_167 (by decide) (by omega) (fun c167 => ?_) (fun c167 => ?_)) | refine wp_if_ne (pc := 167) (tgt := 174) dX7_isBetter_167 (by decide) (fun c167 => ?_) (fun c167 => ?_)
        refine wp_iconst (pc := 174) (v := nI 0) dX7_isBetter_174 rfl ?_
        refine wp_zret (pc := 175) dX7_isBetter_175 rfl (by first | exact Or.inl rfl | exact Or.inr rfl | assumption | exact bI_01 _) ?_
        rotate_left
        refine wp_iconst (pc := 170) (v := nI 1) dX7_isBetter_170 rfl ?_
        refine wp_goto (pc := 171) (tgt := 175) dX7_isBetter_171 (by decide) ?_
        refine wp_zret (pc := 175) dX7_isBetter_175 rfl (by first | exact Or.inl rfl | exact Or.inr rfl | assumption | exact bI_01 _) ?_
        rotate_left
        rotate_left
        · rw [c162] at kk; exact kk
        · rw [c162, c167] at kk; exact kk
        · rw [c162, c167] at kk; exact kk
        · exact absurd him (by omega)
      | succ m ih =>
        intro i him
        have x1 := r5 i (by omega)
        have x2 := r9 i (by omega)
        have y1 := (i1.2.2.2.2.2.2.1 i (by omega)).1
        have y2 := (j1.2.2.2.2.2.2.1 i (by omega)).1
        have w := ih (i + 1) (by omega)
        rw [show anyU (slt T n a b) (i + 1) = (anyU (slt T n a b) i || slt T n a b i) from rfl, show anyU (sgt T n a b) (i + 1) = (anyU (sgt T n a b) i || sgt T n a b i) from rfl] at w
        have first : ∀ v, (anyU (sgt T n a b) i || sgt T n a b i) = v → WP G (d + 4) mX7_isBetter (pI K) 121 [some (.ref 89), some (.int (nI a)), some (.int (nI b)), some (.int (nI n)), some (.int (bI v)), some (.int (bI (anyU (slt T n a b) i))), some (.int (nI i))] [] h2 := by
          intro v hv
          rw [hv] at w
          refine wp_iload (pc := 121) (i := 5) dX7_isBetter_121 rfl ?_
          first | (with_reducible show WP _ _ _ _ _ _ (Value.int (bI _) :: _) _; refine wp_if_neB (pc := 123) (tgt := 147) dX7_isBetter_123 (by decide) (fun c123 => ?_) (fun c123 => ?_)) | (with_reducible show WP _ _ _ _ _ _ (Value.int (nI _) :: _) _; refine wp_if_neN (pc := 123) (tgt := 147) dX7_isBetter_123 (by decide) (by omega) (fun c123 => ?_) (fun c123 => ?_)) | refine wp_if_ne (pc := 123) (tgt := 147) dX7_isBetter_123 (by decide) (fun c123 => ?_) (fun c123 => ?_)
          refine wp_iconst (pc := 147) (v := nI 1) dX7_isBetter_147 rfl ?_
          refine wp_goto (pc := 148) (tgt := 152) dX7_isBetter_148 (by decide) ?_
          refine wp_istore (pc := 152) (i := 5) dX7_isBetter_152 rfl (by decide) rfl ?_
          dsimp only [List.set_cons_zero, List.set_cons_succ]
          first | refine wp_iincN (pc := 154) (i := 6) (n := 1) dX7_isBetter_154 rfl rfl (by decide) rfl ?_ | refine wp_iinc (pc := 154) (i := 6) dX7_isBetter_154 rfl rfl rfl (by decide) rfl ?_
          dsimp only [List.set_cons_zero, List.set_cons_succ]
          refine wp_goto (pc := 157) (tgt := 77) dX7_isBetter_157 (by decide) ?_
          rotate_left
          refine wp_aload_n (pc := 126) (i := 0) dX7_isBetter_126 rfl rfl ?_
          refine wp_gfr (pc := 127) fk_X7_7 dX7_isBetter_127 rfl rfl (by decide) ?_
          refine wp_sipush (pc := 130) (v := nI 1517) dX7_isBetter_130 rfl ?_
          refine wp_iload (pc := 133) (i := 6) dX7_isBetter_133 rfl ?_
          first | (with_reducible show WP _ _ _ _ _ _ (Value.int (nI _) :: Value.int (nI _) :: _) _; refine wp_iaddN (pc := 135) dX7_isBetter_135 ?_) | refine wp_iadd (pc := 135) dX7_isBetter_135 ?_
          first | (with_reducible show WP _ _ _ _ _ _ (Value.int (nI _) :: _) _; refine wp_ialdN (pc := 136) dX7_isBetter_136 rfl (by omega) (by first | with_reducible assumption | with_reducible exact hs_same _ _ _ _ | rfl) ?_) | refine wp_iald (pc := 136) dX7_isBetter_136 rfl (by assumption) rfl ?_
          refine wp_aload_n (pc := 137) (i := 0) dX7_isBetter_137 rfl rfl ?_
          refine wp_gfr (pc := 138) fk_X7_38 dX7_isBetter_138 rfl rfl (by decide) ?_
          refine wp_iload (pc := 141) (i := 6) dX7_isBetter_141 rfl ?_
          first | (with_reducible show WP _ _ _ _ _ _ (Value.int (nI _) :: _) _; refine wp_ialdN (pc := 143) dX7_isBetter_143 rfl (by omega) (by first | with_reducible assumption | with_reducible exact hs_same _ _ _ _ | rfl) ?_) | refine wp_iald (pc := 143) dX7_isBetter_143 rfl (by assumption) rfl ?_
          first | (with_reducible show WP _ _ _ _ _ _ (Value.int (nI _) :: Value.int (nI _) :: _) _; refine wp_icmp_geN (pc := 144) (tgt := 151) dX7_isBetter_144 (by decide) (by omega) (by omega) (fun c144 => ?_) (fun c144 => ?_)) | refine wp_icmp_ge (pc := 144) (tgt := 151) dX7_isBetter_144 (by decide) (fun c144 => ?_) (fun c144 => ?_)
          refine wp_iconst (pc := 151) (v := nI 0) dX7_isBetter_151 rfl ?_
          refine wp_istore (pc := 152) (i := 5) dX7_isBetter_152 rfl (by decide) rfl ?_
          dsimp only [List.set_cons_zero, List.set_cons_succ]
          first | refine wp_iincN (pc := 154) (i := 6) (n := 1) dX7_isBetter_154 rfl rfl (by decide) rfl ?_ | refine wp_iinc (pc := 154) (i := 6) dX7_isBetter_154 rfl rfl rfl (by decide) rfl ?_
          dsimp only [List.set_cons_zero, List.set_cons_succ]
          refine wp_goto (pc := 157) (tgt := 77) dX7_isBetter_157 (by decide) ?_
          rotate_left
          refine wp_iconst (pc := 147) (v := nI 1) dX7_isBetter_147 rfl ?_
          refine wp_goto (pc := 148) (tgt := 152) dX7_isBetter_148 (by decide) ?_
          refine wp_istore (pc := 152) (i := 5) dX7_isBetter_152 rfl (by decide) rfl ?_
          dsimp only [List.set_cons_zero, List.set_cons_succ]
          first | refine wp_iincN (pc := 154) (i := 6) (n := 1) dX7_isBetter_154 rfl rfl (by decide) rfl ?_ | refine wp_iinc (pc := 154) (i := 6) dX7_isBetter_154 rfl rfl rfl (by decide) rfl ?_
          dsimp only [List.set_cons_zero, List.set_cons_succ]
          refine wp_goto (pc := 157) (tgt := 77) dX7_isBetter_157 (by decide) ?_
          rotate_left
          · rw [c123, Bool.true_or] at w; exact w
          · rw [c123, Bool.false_or, show slt T n a b i = false from decide_eq_false (by omega)] at w; exact w
          · rw [c123, Bool.false_or, show slt T n a b i = true from decide_eq_true (by omega)] at w; exact w
        refine wp_iload (pc := 77) (i := 6) dX7_isBetter_77 rfl ?_
        refine wp_aload_n (pc := 79) (i := 0) dX7_isBetter_79 rfl rfl ?_
        refine wp_gfr (pc := 80) fk_X7_7 dX7_isBetter_80 rfl rfl (by decide) ?_
        refine wp_iconst (pc := 83) (v := nI 0) dX7_isBetter_83 rfl ?_
        first | (with_reducible show WP _ _ _ _ _ _ (Value.int (nI _) :: _) _; refine wp_ialdN (pc := 84) dX7_isBetter_84 rfl (by omega) (by first | with_reducible assumption | with_reducible exact hs_same _ _ _ _ | rfl) ?_) | refine wp_iald (pc := 84) dX7_isBetter_84 rfl (by assumption) rfl ?_
        first | (with_reducible show WP _ _ _ _ _ _ (Value.int (nI _) :: Value.int (nI _) :: _) _; refine wp_icmp_geN (pc := 85) (tgt := 160) dX7_isBetter_85 (by decide) (by omega) (by omega) (fun c85 => ?_) (fun c85 => ?_)) | refine wp_icmp_ge (pc := 85) (tgt := 160) dX7_isBetter_85 (by decide) (fun c85 => ?_) (fun c85 => ?_)
        rotate_left
        refine wp_iload (pc := 88) (i := 4) dX7_isBetter_88 rfl ?_
        first | (with_reducible show WP _ _ _ _ _ _ (Value.int (bI _) :: _) _; refine wp_if_neB (pc := 90) (tgt := 114) dX7_isBetter_90 (by decide) (fun c90 => ?_) (fun c90 => ?_)) | (with_reducible show WP _ _ _ _ _ _ (Value.int (nI _) :: _) _; refine wp_if_neN (pc := 90) (tgt := 114) dX7_isBetter_90 (by decide) (by omega) (fun c90 => ?_) (fun c90 => ?_)) | refine wp_if_ne (pc := 90) (tgt := 114) dX7_isBetter_90 (by decide) (fun c90 => ?_) (fun c90 => ?_)
        refine wp_iconst (pc := 114) (v := nI 1) dX7_isBetter_114 rfl ?_
        refine wp_goto (pc := 115) (tgt := 119) dX7_isBetter_115 (by decide) ?_
        refine wp_istore (pc := 119) (i := 4) dX7_isBetter_119 rfl (by decide) rfl ?_
        dsimp only [List.set_cons_zero, List.set_cons_succ]
        rotate_left
        refine wp_aload_n (pc := 93) (i := 0) dX7_isBetter_93 rfl rfl ?_
        refine wp_gfr (pc := 94) fk_X7_7 dX7_isBetter_94 rfl rfl (by decide) ?_
        refine wp_sipush (pc := 97) (v := nI 1517) dX7_isBetter_97 rfl ?_
        refine wp_iload (pc := 100) (i := 6) dX7_isBetter_100 rfl ?_
        first | (with_reducible show WP _ _ _ _ _ _ (Value.int (nI _) :: Value.int (nI _) :: _) _; refine wp_iaddN (pc := 102) dX7_isBetter_102 ?_) | refine wp_iadd (pc := 102) dX7_isBetter_102 ?_
        first | (with_reducible show WP _ _ _ _ _ _ (Value.int (nI _) :: _) _; refine wp_ialdN (pc := 103) dX7_isBetter_103 rfl (by omega) (by first | with_reducible assumption | with_reducible exact hs_same _ _ _ _ | rfl) ?_) | refine wp_iald (pc := 103) dX7_isBetter_103 rfl (by assumption) rfl ?_
        refine wp_aload_n (pc := 104) (i := 0) dX7_isBetter_104 rfl rfl ?_
        refine wp_gfr (pc := 105) fk_X7_38 dX7_isBetter_105 rfl rfl (by decide) ?_
        refine wp_iload (pc := 108) (i := 6) dX7_isBetter_108 rfl ?_
        first | (with_reducible show WP _ _ _ _ _ _ (Value.int (nI _) :: _) _; refine wp_ialdN (pc := 110) dX7_isBetter_110 rfl (by omega) (by first | with_reducible assumption | with_reducible exact hs_same _ _ _ _ | rfl) ?_) | refine wp_iald (pc := 110) dX7_isBetter_110 rfl (by assumption) rfl ?_
        first | (with_reducible show WP _ _ _ _ _ _ (Value.int (nI _) :: Value.int (nI _) :: _) _; refine wp_icmp_leN (pc := 111) (tgt := 118) dX7_isBetter_111 (by decide) (by omega) (by omega) (fun c111 => ?_) (fun c111 => ?_)) | refine wp_icmp_le (pc := 111) (tgt := 118) dX7_isBetter_111 (by decide) (fun c111 => ?_) (fun c111 => ?_)
        refine wp_iconst (pc := 118) (v := nI 0) dX7_isBetter_118 rfl ?_
        refine wp_istore (pc := 119) (i := 4) dX7_isBetter_119 rfl (by decide) rfl ?_
        dsimp only [List.set_cons_zero, List.set_cons_succ]
        rotate_left
        refine wp_iconst (pc := 114) (v := nI 1) dX7_isBetter_114 rfl ?_
        refine wp_goto (pc := 115) (tgt := 119) dX7_isBetter_115 (by decide) ?_
        refine wp_istore (pc := 119) (i := 4) dX7_isBetter_119 rfl (by decide) rfl ?_
        dsimp only [List.set_cons_zero, List.set_cons_succ]
        rotate_left
        · exact absurd him (by omega)
        · exact first true (by rw [c90, Bool.true_or])
        · exact first false (by rw [c90, Bool.false_or]; exact decide_eq_false (by omega))
        · exact first true (by rw [c90, Bool.false_or]; exact decide_eq_true (by omega))
    refine wp_iconst (pc := 68) (v := nI 0) dX7_isBetter_68 rfl ?_
    refine wp_istore (pc := 69) (i := 4) dX7_isBetter_69 rfl (by decide) rfl ?_
    dsimp only [List.set_cons_zero, List.set_cons_succ]
    refine wp_iconst (pc := 71) (v := nI 0) dX7_isBetter_71 rfl ?_
    refine wp_istore (pc := 72) (i := 5) dX7_isBetter_72 rfl (by decide) rfl ?_
    dsimp only [List.set_cons_zero, List.set_cons_succ]
    refine wp_iconst (pc := 74) (v := nI 0) dX7_isBetter_74 rfl ?_
    refine wp_istore (pc := 75) (i := 6) dX7_isBetter_75 rfl (by decide) rfl ?_
    dsimp only [List.set_cons_zero, List.set_cons_succ]
    rotate_left
    exact loop (T 0) 0 (by omega)
  have days : ∀ j i h2 L5 L6, i + j = n → RW h2 1512 (itP (swT T a b) i) → FB h h2 1512 → WP G (d + 4) mX7_isBetter (pI K) 49 [some (.ref 89), some (.int (nI a)), some (.int (nI b)), some (.int (nI n)), some (.int (nI i)), L5, L6] [] h2 := by
    intro j
    induction j with
    | zero =>
      intro i h2 L5 L6 hij hR2 hf2
      refine wp_iload (pc := 49) (i := 4) dX7_isBetter_49 rfl ?_
      refine wp_iload_n (pc := 51) (i := 3) dX7_isBetter_51 rfl rfl ?_
      first | (with_reducible show WP _ _ _ _ _ _ (Value.int (nI _) :: Value.int (nI _) :: _) _; refine wp_icmp_geN (pc := 52) (tgt := 68) dX7_isBetter_52 (by decide) (by omega) (by omega) (fun c52 => ?_) (fun c52 => ?_)) | refine wp_icmp_ge (pc := 52) (tgt := 68) dX7_isBetter_52 (by decide) (fun c52 => ?_) (fun c52 => ?_)
      rotate_left
      rotate_left
      · rw [show i = n by omega] at hR2; exact scan h2 _ _ _ hR2 hf2
      · exact absurd hij (by omega)
    | succ j ih =>
      intro i h2 L5 L6 hij hR2 hf2
      obtain ⟨p1, p2, p3⟩ := itP_keep q1 (by omega) i (by omega)
      refine wp_iload (pc := 49) (i := 4) dX7_isBetter_49 rfl ?_
      refine wp_iload_n (pc := 51) (i := 3) dX7_isBetter_51 rfl rfl ?_
      first | (with_reducible show WP _ _ _ _ _ _ (Value.int (nI _) :: Value.int (nI _) :: _) _; refine wp_icmp_geN (pc := 52) (tgt := 68) dX7_isBetter_52 (by decide) (by omega) (by omega) (fun c52 => ?_) (fun c52 => ?_)) | refine wp_icmp_ge (pc := 52) (tgt := 68) dX7_isBetter_52 (by decide) (fun c52 => ?_) (fun c52 => ?_)
      rotate_left
      refine wp_aload_n (pc := 55) (i := 0) dX7_isBetter_55 rfl rfl ?_
      refine wp_sipush (pc := 56) (v := nI 1512) dX7_isBetter_56 rfl ?_
      refine wp_cV1v (pc := 59) lk_X7_172 dX7_isBetter_59 rfl rfl rfl (sp7_pass hR2 p1 (by omega) (by rw [p3 1 (by omega), q3]; omega) (by omega) (fun h3 hR3 hf3 => ?_))
      first | refine wp_iincN (pc := 62) (i := 4) (n := 1) dX7_isBetter_62 rfl rfl (by decide) rfl ?_ | refine wp_iinc (pc := 62) (i := 4) dX7_isBetter_62 rfl rfl rfl (by decide) rfl ?_
      dsimp only [List.set_cons_zero, List.set_cons_succ]
      refine wp_goto (pc := 65) (tgt := 49) dX7_isBetter_65 (by decide) ?_
      rotate_left
      · exact absurd hij (by omega)
      · exact ih (i + 1) h3 _ _ (by omega) hR3 (hf2.tr hf3)
  refine wp_aload_n (pc := 8) (i := 0) dX7_isBetter_8 rfl rfl ?_
  refine wp_gfr (pc := 9) fk_X7_7 dX7_isBetter_9 rfl rfl (by decide) ?_
  refine wp_sipush (pc := 12) (v := nI 1544) dX7_isBetter_12 rfl ?_
  refine wp_iload_n (pc := 15) (i := 1) dX7_isBetter_15 rfl rfl ?_
  first | (with_reducible show WP _ _ _ _ _ _ (Value.int (nI _) :: Value.int (nI _) :: _) _; refine wp_iaddN (pc := 16) dX7_isBetter_16 ?_) | refine wp_iadd (pc := 16) dX7_isBetter_16 ?_
  refine wp_aload_n (pc := 17) (i := 0) dX7_isBetter_17 rfl rfl ?_
  refine wp_gfr (pc := 18) fk_X7_7 dX7_isBetter_18 rfl rfl (by decide) ?_
  refine wp_bipush (pc := 21) (v := nI 32) dX7_isBetter_21 rfl ?_
  refine wp_iload_n (pc := 23) (i := 2) dX7_isBetter_23 rfl rfl ?_
  first | (with_reducible show WP _ _ _ _ _ _ (Value.int (nI _) :: Value.int (nI _) :: _) _; refine wp_iaddN (pc := 24) dX7_isBetter_24 ?_) | refine wp_iadd (pc := 24) dX7_isBetter_24 ?_
  first | (with_reducible show WP _ _ _ _ _ _ (Value.int (nI _) :: _) _; refine wp_ialdN (pc := 25) dX7_isBetter_25 rfl (by omega) (by first | with_reducible assumption | with_reducible exact hs_same _ _ _ _ | rfl) ?_) | refine wp_iald (pc := 25) dX7_isBetter_25 rfl (by assumption) rfl ?_
  first | (with_reducible show WP _ _ _ _ _ _ (_ :: Value.int (nI _) :: _) _; refine wp_iastN (pc := 26) dX7_isBetter_26 rfl (by omega) ?_) | refine wp_iast (pc := 26) dX7_isBetter_26 rfl (by assumption) rfl ?_
  refine wp_aload_n (pc := 27) (i := 0) dX7_isBetter_27 rfl rfl ?_
  refine wp_gfr (pc := 28) fk_X7_7 dX7_isBetter_28 rfl rfl (by decide) ?_
  refine wp_sipush (pc := 31) (v := nI 1544) dX7_isBetter_31 rfl ?_
  refine wp_iload_n (pc := 34) (i := 2) dX7_isBetter_34 rfl rfl ?_
  first | (with_reducible show WP _ _ _ _ _ _ (Value.int (nI _) :: Value.int (nI _) :: _) _; refine wp_iaddN (pc := 35) dX7_isBetter_35 ?_) | refine wp_iadd (pc := 35) dX7_isBetter_35 ?_
  refine wp_aload_n (pc := 36) (i := 0) dX7_isBetter_36 rfl rfl ?_
  refine wp_gfr (pc := 37) fk_X7_7 dX7_isBetter_37 rfl rfl (by decide) ?_
  refine wp_bipush (pc := 40) (v := nI 32) dX7_isBetter_40 rfl ?_
  refine wp_iload_n (pc := 42) (i := 1) dX7_isBetter_42 rfl rfl ?_
  first | (with_reducible show WP _ _ _ _ _ _ (Value.int (nI _) :: Value.int (nI _) :: _) _; refine wp_iaddN (pc := 43) dX7_isBetter_43 ?_) | refine wp_iadd (pc := 43) dX7_isBetter_43 ?_
  first | (with_reducible show WP _ _ _ _ _ _ (Value.int (nI _) :: _) _; refine wp_ialdN (pc := 44) dX7_isBetter_44 rfl (by omega) (by first | with_reducible assumption | with_reducible exact hs_same _ _ _ _ | rfl) ?_) | refine wp_iald (pc := 44) dX7_isBetter_44 rfl (by assumption) rfl ?_
  first | (with_reducible show WP _ _ _ _ _ _ (_ :: Value.int (nI _) :: _) _; refine wp_iastN (pc := 45) dX7_isBetter_45 rfl (by omega) ?_) | refine wp_iast (pc := 45) dX7_isBetter_45 rfl (by assumption) rfl ?_
  refine wp_iconst (pc := 46) (v := nI 0) dX7_isBetter_46 rfl ?_
  refine wp_istore (pc := 47) (i := 4) dX7_isBetter_47 rfl (by decide) rfl ?_
  dsimp only [List.set_cons_zero, List.set_cons_succ]
  rotate_left
  exact days n 0 _ _ _ (by omega) w3 hf3
end RSWAPS
