section RDRAWN
variable {G : Gt} {d : Nat} {h : Hp} {T : Tn}
theorem sp7_sumG {p : Nat} {f : Nat → Nat} {K : Int32 → Hp → Prop} (hp : p + 5 ≤ 1568) (hr : ∀ i, i < 5 → h 90 (p + i) = nI (f i)) (k : K (nI (smU f 5)) h) : Call G d mX7_sumOf [.ref 89, .int (nI p)] h (pI K) := by
  refine Call.of (M := mX7_sumOf) (n := 2) (by decide +kernel) rfl ?_
  show WP _ _ _ _ 0 [some (.ref 89), some (.int (nI p)), none, none] [] _
  have loop : ∀ m i, i + m = 5 → WP G d mX7_sumOf (pI K) 4 [some (.ref 89), some (.int (nI p)), some (.int (nI (smU f i))), some (.int (nI i))] [] h := by
    intro m
    induction m with
    | zero =>
      intro i him
      refine wp_iload_n (pc := 4) (i := 3) dX7_sumOf_4 rfl rfl ?_
      refine wp_iconst (pc := 5) (v := nI 5) dX7_sumOf_5 rfl ?_
      first | (with_reducible show WP _ _ _ _ _ _ (Value.int (nI _) :: Value.int (nI _) :: _) _; refine wp_icmp_geN (pc := 6) (tgt := 26) dX7_sumOf_6 (by decide) (by omega) (by omega) (fun c6 => ?_) (fun c6 => ?_)) | refine wp_icmp_ge (pc := 6) (tgt := 26) dX7_sumOf_6 (by decide) (fun c6 => ?_) (fun c6 => ?_)
      refine wp_iload_n (pc := 26) (i := 2) dX7_sumOf_26 rfl rfl ?_
      refine wp_iret (pc := 27) dX7_sumOf_27 rfl ?_
      rotate_left
      rotate_left
      · rw [show i = 5 by omega]; exact k
      · exact absurd him (by omega)
    | succ m ih =>
      intro i him
      have e := hr i (by omega)
      refine wp_iload_n (pc := 4) (i := 3) dX7_sumOf_4 rfl rfl ?_
      refine wp_iconst (pc := 5) (v := nI 5) dX7_sumOf_5 rfl ?_
      first | (with_reducible show WP _ _ _ _ _ _ (Value.int (nI _) :: Value.int (nI _) :: _) _; refine wp_icmp_geN (pc := 6) (tgt := 26) dX7_sumOf_6 (by decide) (by omega) (by omega) (fun c6 => ?_) (fun c6 => ?_)) | refine wp_icmp_ge (pc := 6) (tgt := 26) dX7_sumOf_6 (by decide) (fun c6 => ?_) (fun c6 => ?_)
      rotate_left
      refine wp_iload_n (pc := 9) (i := 2) dX7_sumOf_9 rfl rfl ?_
      refine wp_aload_n (pc := 10) (i := 0) dX7_sumOf_10 rfl rfl ?_
      refine wp_gfr (pc := 11) fk_X7_7 dX7_sumOf_11 rfl rfl (by decide) ?_
      refine wp_iload_n (pc := 14) (i := 1) dX7_sumOf_14 rfl rfl ?_
      refine wp_iload_n (pc := 15) (i := 3) dX7_sumOf_15 rfl rfl ?_
      first | (with_reducible show WP _ _ _ _ _ _ (Value.int (nI _) :: Value.int (nI _) :: _) _; refine wp_iaddN (pc := 16) dX7_sumOf_16 ?_) | refine wp_iadd (pc := 16) dX7_sumOf_16 ?_
      first | (with_reducible show WP _ _ _ _ _ _ (Value.int (nI _) :: _) _; refine wp_ialdN (pc := 17) dX7_sumOf_17 rfl (by omega) (by first | with_reducible assumption | with_reducible exact hs_same _ _ _ _ | rfl) ?_) | refine wp_iald (pc := 17) dX7_sumOf_17 rfl (by assumption) rfl ?_
      first | (with_reducible show WP _ _ _ _ _ _ (Value.int (nI _) :: Value.int (nI _) :: _) _; refine wp_iaddN (pc := 18) dX7_sumOf_18 ?_) | refine wp_iadd (pc := 18) dX7_sumOf_18 ?_
      refine wp_istore_n (pc := 19) (i := 2) dX7_sumOf_19 rfl rfl (by decide) rfl ?_
      dsimp only [List.set_cons_zero, List.set_cons_succ]
      first | refine wp_iincN (pc := 20) (i := 3) (n := 1) dX7_sumOf_20 rfl rfl (by decide) rfl ?_ | refine wp_iinc (pc := 20) (i := 3) dX7_sumOf_20 rfl rfl rfl (by decide) rfl ?_
      dsimp only [List.set_cons_zero, List.set_cons_succ]
      refine wp_goto (pc := 23) (tgt := 4) dX7_sumOf_23 (by decide) ?_
      rotate_left
      · exact absurd him (by omega)
      · exact ih (i + 1) (by omega)
  refine wp_iconst (pc := 0) (v := nI 0) dX7_sumOf_0 rfl ?_
  refine wp_istore_n (pc := 1) (i := 2) dX7_sumOf_1 rfl rfl (by decide) rfl ?_
  dsimp only [List.set_cons_zero, List.set_cons_succ]
  refine wp_iconst (pc := 2) (v := nI 0) dX7_sumOf_2 rfl ?_
  refine wp_istore_n (pc := 3) (i := 3) dX7_sumOf_3 rfl rfl (by decide) rfl ?_
  dsimp only [List.set_cons_zero, List.set_cons_succ]
  rotate_left
  exact loop 5 0 rfl
theorem sr_drawn {n s w : Int32} {K : Int32 → Hp → Prop} (hR : RW h 0 T) (hI : RT h T) (hO : OKT T) (hd : T 4 ≤ 999) (k : ∀ h', SR h h' → K (fDrawn T n s w) h') : Call G (d + 5) mX7_drawn [.ref 89, .int n, .int s, .int w] h (pI K) := by
  obtain ⟨o0, o1, o2, o3, o4, o5, o6, o7, o8⟩ := id hO
  refine Call.of (M := mX7_drawn) (n := 3) (by decide +kernel) rfl ?_
  show WP _ _ _ _ 0 [some (.ref 89), some (.int n), some (.int s), some (.int w), none, none, none] [] _
  rcases hI.c with ⟨z, e1⟩ | ⟨z, e1⟩
  · rw [fDrawn, if_pos z] at k
    refine wp_aload_n (pc := 0) (i := 0) dX7_drawn_0 rfl rfl ?_
    refine wp_gfv (pc := 1) fk_X7_136 dX7_drawn_1 rfl rfl (by first | with_reducible assumption | with_reducible exact hs_same _ _ _ _ | rfl) ?_
    first | (with_reducible show WP _ _ _ _ _ _ (Value.int (bI _) :: _) _; refine wp_if_neB (pc := 4) (tgt := 10) dX7_drawn_4 (by decide) (fun c4 => ?_) (fun c4 => ?_)) | (with_reducible show WP _ _ _ _ _ _ (Value.int (nI _) :: _) _; refine wp_if_neN (pc := 4) (tgt := 10) dX7_drawn_4 (by decide) (by omega) (fun c4 => ?_) (fun c4 => ?_)) | refine wp_if_ne (pc := 4) (tgt := 10) dX7_drawn_4 (by decide) (fun c4 => ?_) (fun c4 => ?_)
    rotate_left
    refine wp_ldc (pc := 7) kn_X7_143 dX7_drawn_7 ?_
    refine wp_iret (pc := 9) dX7_drawn_9 rfl ?_
    rotate_left
    · exact absurd rfl c4
    · exact k h (SR.rf h)
  rw [fDrawn, if_neg (by omega)] at k
  refine wp_aload_n (pc := 0) (i := 0) dX7_drawn_0 rfl rfl ?_
  refine wp_gfv (pc := 1) fk_X7_136 dX7_drawn_1 rfl rfl (by first | with_reducible assumption | with_reducible exact hs_same _ _ _ _ | rfl) ?_
  first | (with_reducible show WP _ _ _ _ _ _ (Value.int (bI _) :: _) _; refine wp_if_neB (pc := 4) (tgt := 10) dX7_drawn_4 (by decide) (fun c4 => ?_) (fun c4 => ?_)) | (with_reducible show WP _ _ _ _ _ _ (Value.int (nI _) :: _) _; refine wp_if_neN (pc := 4) (tgt := 10) dX7_drawn_4 (by decide) (by omega) (fun c4 => ?_) (fun c4 => ?_)) | refine wp_if_ne (pc := 4) (tgt := 10) dX7_drawn_4 (by decide) (fun c4 => ?_) (fun c4 => ?_)
  refine wp_iload_n (pc := 10) (i := 1) dX7_drawn_10 rfl rfl ?_
  first | (with_reducible show WP _ _ _ _ _ _ (Value.int (nI _) :: _) _; refine wp_i2lN (pc := 11) dX7_drawn_11 (by omega) ?_) | refine wp_i2l (pc := 11) dX7_drawn_11 rfl ?_
  refine wp_lconst (pc := 12) (v := lN 0) dX7_drawn_12 rfl ?_
  refine wp_ldc2 (pc := 13) kn_X7_179 dX7_drawn_13 ?_
  refine wp_cS3i (pc := 16) lk_X7_48 dX7_drawn_16 rfl (sp7_btw (by decide) (by decide) ?_)
  first | (with_reducible show WP _ _ _ _ _ _ (Value.int (bI _) :: _) _; refine wp_if_eqB (pc := 19) (tgt := 44) dX7_drawn_19 (by decide) (fun c19 => ?_) (fun c19 => ?_)) | (with_reducible show WP _ _ _ _ _ _ (Value.int (nI _) :: _) _; refine wp_if_eqN (pc := 19) (tgt := 44) dX7_drawn_19 (by decide) (by omega) (fun c19 => ?_) (fun c19 => ?_)) | refine wp_if_eq (pc := 19) (tgt := 44) dX7_drawn_19 (by decide) (fun c19 => ?_) (fun c19 => ?_)
  refine wp_ldc (pc := 44) kn_X7_58 dX7_drawn_44 ?_
  refine wp_iret (pc := 46) dX7_drawn_46 rfl ?_
  rotate_left
  refine wp_iload_n (pc := 22) (i := 2) dX7_drawn_22 rfl rfl ?_
  first | (with_reducible show WP _ _ _ _ _ _ (Value.int (nI _) :: _) _; refine wp_i2lN (pc := 23) dX7_drawn_23 (by omega) ?_) | refine wp_i2l (pc := 23) dX7_drawn_23 rfl ?_
  refine wp_lconst (pc := 24) (v := lN 1) dX7_drawn_24 rfl ?_
  refine wp_ldc2 (pc := 25) kn_X7_241 dX7_drawn_25 ?_
  refine wp_cS3i (pc := 28) lk_X7_48 dX7_drawn_28 rfl (sp7_btw (by decide) (by decide) ?_)
  first | (with_reducible show WP _ _ _ _ _ _ (Value.int (bI _) :: _) _; refine wp_if_eqB (pc := 31) (tgt := 44) dX7_drawn_31 (by decide) (fun c31 => ?_) (fun c31 => ?_)) | (with_reducible show WP _ _ _ _ _ _ (Value.int (nI _) :: _) _; refine wp_if_eqN (pc := 31) (tgt := 44) dX7_drawn_31 (by decide) (by omega) (fun c31 => ?_) (fun c31 => ?_)) | refine wp_if_eq (pc := 31) (tgt := 44) dX7_drawn_31 (by decide) (fun c31 => ?_) (fun c31 => ?_)
  refine wp_ldc (pc := 44) kn_X7_58 dX7_drawn_44 ?_
  refine wp_iret (pc := 46) dX7_drawn_46 rfl ?_
  rotate_left
  refine wp_iload_n (pc := 34) (i := 3) dX7_drawn_34 rfl rfl ?_
  first | (with_reducible show WP _ _ _ _ _ _ (Value.int (nI _) :: _) _; refine wp_i2lN (pc := 35) dX7_drawn_35 (by omega) ?_) | refine wp_i2l (pc := 35) dX7_drawn_35 rfl ?_
  refine wp_lconst (pc := 36) (v := lN 0) dX7_drawn_36 rfl ?_
  refine wp_lconst (pc := 37) (v := lN 1) dX7_drawn_37 rfl ?_
  refine wp_cS3i (pc := 38) lk_X7_48 dX7_drawn_38 rfl (sp7_btw (by decide) (by decide) ?_)
  first | (with_reducible show WP _ _ _ _ _ _ (Value.int (bI _) :: _) _; refine wp_if_neB (pc := 41) (tgt := 47) dX7_drawn_41 (by decide) (fun c41 => ?_) (fun c41 => ?_)) | (with_reducible show WP _ _ _ _ _ _ (Value.int (nI _) :: _) _; refine wp_if_neN (pc := 41) (tgt := 47) dX7_drawn_41 (by decide) (by omega) (fun c41 => ?_) (fun c41 => ?_)) | refine wp_if_ne (pc := 41) (tgt := 47) dX7_drawn_41 (by decide) (fun c41 => ?_) (fun c41 => ?_)
  rotate_left
  refine wp_ldc (pc := 44) kn_X7_58 dX7_drawn_44 ?_
  refine wp_iret (pc := 46) dX7_drawn_46 rfl ?_
  rotate_left
  rotate_left
  · rw [c19] at k; exact k h (SR.rf h)
  · rw [c19, c31] at k; exact k h (SR.rf h)
  rotate_left
  · rw [c19, c31, c41] at k; exact k h (SR.rf h)
  · exact absurd c4 (by decide)
  rw [c19, c31, c41] at k
  obtain ⟨m, -, hm, rfl⟩ := btw_t (by decide) c19
  obtain ⟨s, hs1, hs2, rfl⟩ := btw_t (by decide) c31
  obtain ⟨u, -, hu, rfl⟩ := btw_t (by decide) c41
  rw [nI_clamp (show m < 2 ^ 31 by omega), nI_clamp (show s < 2 ^ 31 by omega)] at k
  have em : nI u = nI 0 ↔ u = 0 := nI_eq (by omega) (by decide)
  have e91 : h 90 1 = nI (T 1) := hR 1 (by omega)
  have loop : ∀ j i h1, i + j = m → RW h1 1512 (drT T s i) → FB h h1 1512 → WP G (d + 5) mX7_drawn (pI K) 62 [some (.ref 89), some (.int (nI m)), some (.int (nI s)), some (.int (nI u)), some (.long (lN (dsd s i))), none, some (.int (nI i))] [] h1 := by
    intro j
    induction j with
    | zero =>
      intro i h1 hij hR1 hq1
      obtain ⟨a, b, c, e⟩ := okt_drT hO z s i (by omega)
      have kk := k h1 hq1.sr
      have e5 : ∀ q, q < 5 → h1 90 (1517 + q) = nI (drT T s i (5 + q)) := fun q hq => by have := hR1 (5 + q) (by omega); rwa [← Nat.add_assoc] at this
      have e6 : ∀ q, q < 5 → h1 90 (1522 + q) = nI (drT T s i (10 + q)) := fun q hq => by have := hR1 (10 + q) (by omega); rwa [← Nat.add_assoc] at this
      have s5 : smU (fun q => drT T s i (5 + q)) 5 = smU (fun q => drT T s i (5 + q)) (T 0) := smU_5 o0 (fun q h1 h2 => (a.2.2.2.2.2.2.2.2 q (by omega) h2).1)
      have s6 : smU (fun q => drT T s i (10 + q)) 5 = smU (fun q => drT T s i (10 + q)) (T 0) := smU_5 o0 (fun q h1 h2 => (a.2.2.2.2.2.2.2.2 q (by omega) h2).2)
      refine wp_iload (pc := 62) (i := 6) dX7_drawn_62 rfl ?_
      refine wp_iload_n (pc := 64) (i := 1) dX7_drawn_64 rfl rfl ?_
      first | (with_reducible show WP _ _ _ _ _ _ (Value.int (nI _) :: Value.int (nI _) :: _) _; refine wp_icmp_geN (pc := 65) (tgt := 131) dX7_drawn_65 (by decide) (by omega) (by omega) (fun c65 => ?_) (fun c65 => ?_)) | refine wp_icmp_ge (pc := 65) (tgt := 131) dX7_drawn_65 (by decide) (fun c65 => ?_) (fun c65 => ?_)
      refine wp_iload_n (pc := 131) (i := 3) dX7_drawn_131 rfl rfl ?_
      first | (with_reducible show WP _ _ _ _ _ _ (Value.int (bI _) :: _) _; refine wp_if_neB (pc := 132) (tgt := 145) dX7_drawn_132 (by decide) (fun c132 => ?_) (fun c132 => ?_)) | (with_reducible show WP _ _ _ _ _ _ (Value.int (nI _) :: _) _; refine wp_if_neN (pc := 132) (tgt := 145) dX7_drawn_132 (by decide) (by omega) (fun c132 => ?_) (fun c132 => ?_)) | refine wp_if_ne (pc := 132) (tgt := 145) dX7_drawn_132 (by decide) (fun c132 => ?_) (fun c132 => ?_)
      refine wp_aload_n (pc := 145) (i := 0) dX7_drawn_145 rfl rfl ?_
      refine wp_sipush (pc := 146) (v := nI 1522) dX7_drawn_146 rfl ?_
      refine wp_cV1i (pc := 149) lk_X7_249 dX7_drawn_149 rfl rfl rfl (sp7_sumG (by omega) e6 ?_)
      refine wp_iret (pc := 152) dX7_drawn_152 rfl ?_
      rotate_left
      refine wp_aload_n (pc := 135) (i := 0) dX7_drawn_135 rfl rfl ?_
      refine wp_sipush (pc := 136) (v := nI 1517) dX7_drawn_136 rfl ?_
      refine wp_cV1i (pc := 139) lk_X7_249 dX7_drawn_139 rfl rfl rfl (sp7_sumG (by omega) e5 ?_)
      refine wp_goto (pc := 142) (tgt := 152) dX7_drawn_142 (by decide) ?_
      refine wp_iret (pc := 152) dX7_drawn_152 rfl ?_
      rotate_left
      rotate_left
      · rw [if_neg (fun q => c132 (em.mp q)), show m = i by omega, ← s6] at kk; exact kk
      · rw [if_pos (em.mpr c132), show m = i by omega, ← s5] at kk; exact kk
      · exact absurd hij (by omega)
    | succ j ih =>
      intro i h1 hij hR1 hq1
      obtain ⟨a, b, c, e⟩ := okt_drT hO z s i (by omega)
      have l1 := dsd_lt (show s < 2147483647 by omega) i
      have l2 := dsd_lt (show s < 2147483647 by omega) (i + 1)
      have hm2 := Nat.mod_lt (dsd s (i + 1)) z
      have h52 := Nat.mod_lt (dsd s (i + 1)) (show 0 < 5 by decide)
      have e1 : h1 90 1 = nI (T 1) := by rw [hq1.2 1 (by omega)]; exact e91
      refine wp_iload (pc := 62) (i := 6) dX7_drawn_62 rfl ?_
      refine wp_iload_n (pc := 64) (i := 1) dX7_drawn_64 rfl rfl ?_
      first | (with_reducible show WP _ _ _ _ _ _ (Value.int (nI _) :: Value.int (nI _) :: _) _; refine wp_icmp_geN (pc := 65) (tgt := 131) dX7_drawn_65 (by decide) (by omega) (by omega) (fun c65 => ?_) (fun c65 => ?_)) | refine wp_icmp_ge (pc := 65) (tgt := 131) dX7_drawn_65 (by decide) (fun c65 => ?_) (fun c65 => ?_)
      rotate_left
      refine wp_lload (pc := 68) (i := 4) dX7_drawn_68 rfl ?_
      refine wp_ldc2 (pc := 70) kn_X7_243 dX7_drawn_70 ?_
      refine wp_lmulN (pc := 73) dX7_drawn_73 ?_
      refine wp_ldc2 (pc := 74) kn_X7_245 dX7_drawn_74 ?_
      refine wp_lremN (pc := 77) dX7_drawn_77 (by omega) (by omega) (by omega) ?_
      refine wp_lstore (pc := 78) (i := 4) dX7_drawn_78 rfl (by decide) rfl ?_
      dsimp only [List.set_cons_zero, List.set_cons_succ]
      refine wp_lload (pc := 80) (i := 4) dX7_drawn_80 rfl ?_
      refine wp_ldc2 (pc := 82) kn_X7_187 dX7_drawn_82 ?_
      refine wp_lremN (pc := 85) dX7_drawn_85 (by omega) (by omega) (by omega) ?_
      refine wp_lconst (pc := 86) (v := lN 0) dX7_drawn_86 rfl ?_
      refine wp_lcmp (pc := 87) dX7_drawn_87 ?_
      rotate_left
      · exact absurd hij (by omega)
      show WP G (d + 5) mX7_drawn (pI K) 88 [some (.ref 89), some (.int (nI m)), some (.int (nI s)), some (.int (nI u)), some (.long (lN (dsd s (i + 1)))), none, some (.int (nI i))] [.int (lg_cmp (lN (dsd s (i + 1) % 4)) (lN 0))] h1
      have fin : ∀ h2, RW h2 1512 (drI (drT T s i) (dsd s (i + 1))) → FB h h2 1512 → WP G (d + 5) mX7_drawn (pI K) 118 [some (.ref 89), some (.int (nI m)), some (.int (nI s)), some (.int (nI u)), some (.long (lN (dsd s (i + 1)))), none, some (.int (nI i))] [] h2 := by
        intro h2 hR2 hq2
        obtain ⟨p1, p2⟩ := okt_drI (s := dsd s (i + 1)) a (by omega)
        refine wp_aload_n (pc := 118) (i := 0) dX7_drawn_118 rfl rfl ?_
        refine wp_sipush (pc := 119) (v := nI 1512) dX7_drawn_119 rfl ?_
        refine wp_cV1v (pc := 122) lk_X7_172 dX7_drawn_122 rfl rfl rfl (sp7_pass hR2 p1 (by omega) (by rw [p2 1 (by omega)]; omega) (by rw [p2 4 (by omega)]; omega) (fun h3 hR3 hf3 => ?_))
        first | refine wp_iincN (pc := 125) (i := 6) (n := 1) dX7_drawn_125 rfl rfl (by decide) rfl ?_ | refine wp_iinc (pc := 125) (i := 6) dX7_drawn_125 rfl rfl rfl (by decide) rfl ?_
        dsimp only [List.set_cons_zero, List.set_cons_succ]
        refine wp_goto (pc := 128) (tgt := 62) dX7_drawn_128 (by decide) ?_
        rotate_left
        exact ih (i + 1) h3 (by omega) hR3 (hq2.tr hf3)
      refine wp_if_ne (pc := 88) (tgt := 118) dX7_drawn_88 (by decide) (fun c80 => ?_) (fun c80 => ?_)
      · have c80 := (cmp_ne (by omega) (by decide)).mp c80
        refine fin h1 ?_ hq1
        rw [drI, if_neg c80]; exact hR1
      · have c80 : dsd s (i + 1) % 4 = 0 := Decidable.byContradiction (fun q => (cmp_ne (by omega) (by decide)).mpr q c80)
        refine wp_aload_n (pc := 91) (i := 0) dX7_drawn_91 rfl rfl ?_
        refine wp_gfr (pc := 92) fk_X7_7 dX7_drawn_92 rfl rfl (by decide) ?_
        refine wp_sipush (pc := 95) (v := nI 1556) dX7_drawn_95 rfl ?_
        refine wp_lload (pc := 98) (i := 4) dX7_drawn_98 rfl ?_
        refine wp_aload_n (pc := 100) (i := 0) dX7_drawn_100 rfl rfl ?_
        refine wp_gfr (pc := 101) fk_X7_7 dX7_drawn_101 rfl rfl (by decide) ?_
        refine wp_iconst (pc := 104) (v := nI 1) dX7_drawn_104 rfl ?_
        first | (with_reducible show WP _ _ _ _ _ _ (Value.int (nI _) :: _) _; refine wp_ialdN (pc := 105) dX7_drawn_105 rfl (by omega) (by first | with_reducible assumption | with_reducible exact hs_same _ _ _ _ | rfl) ?_) | refine wp_iald (pc := 105) dX7_drawn_105 rfl (by assumption) rfl ?_
        first | (with_reducible show WP _ _ _ _ _ _ (Value.int (nI _) :: _) _; refine wp_i2lN (pc := 106) dX7_drawn_106 (by omega) ?_) | refine wp_i2l (pc := 106) dX7_drawn_106 rfl ?_
        refine wp_lremN (pc := 107) dX7_drawn_107 (by omega) (by omega) (by omega) ?_
        refine wp_l2iN (pc := 108) dX7_drawn_108 ?_
        first | (with_reducible show WP _ _ _ _ _ _ (Value.int (nI _) :: Value.int (nI _) :: _) _; refine wp_iaddN (pc := 109) dX7_drawn_109 ?_) | refine wp_iadd (pc := 109) dX7_drawn_109 ?_
        refine wp_lload (pc := 110) (i := 4) dX7_drawn_110 rfl ?_
        refine wp_ldc2 (pc := 112) kn_X7_247 dX7_drawn_112 ?_
        refine wp_lremN (pc := 115) dX7_drawn_115 (by omega) (by omega) (by omega) ?_
        refine wp_l2iN (pc := 116) dX7_drawn_116 ?_
        first | (with_reducible show WP _ _ _ _ _ _ (_ :: Value.int (nI _) :: _) _; refine wp_iastN (pc := 117) dX7_drawn_117 rfl (by omega) ?_) | refine wp_iast (pc := 117) dX7_drawn_117 rfl (by assumption) rfl ?_
        rotate_left
        have w := RWup (v := dsd s (i + 1) % 5) hR1 (show 44 + dsd s (i + 1) % T 1 < 56 by omega)
        rw [← Nat.add_assoc] at w
        refine fin _ ?_ (hq1.hs (by omega) (by omega))
        rw [drI, if_pos c80, e]; exact w
  refine wp_aload_n (pc := 47) (i := 0) dX7_drawn_47 rfl rfl ?_
  refine wp_iconst (pc := 48) (v := nI 0) dX7_drawn_48 rfl ?_
  refine wp_sipush (pc := 49) (v := nI 1512) dX7_drawn_49 rfl ?_
  refine wp_cV2v (pc := 52) lk_X7_132 dX7_drawn_52 rfl rfl rfl (sp7_copyTown hR (by omega) (by omega) (by omega) (fun h1 hR1 hf1 => ?_))
  refine wp_iload_n (pc := 55) (i := 2) dX7_drawn_55 rfl rfl ?_
  first | (with_reducible show WP _ _ _ _ _ _ (Value.int (nI _) :: _) _; refine wp_i2lN (pc := 56) dX7_drawn_56 (by omega) ?_) | refine wp_i2l (pc := 56) dX7_drawn_56 rfl ?_
  refine wp_lstore (pc := 57) (i := 4) dX7_drawn_57 rfl (by decide) rfl ?_
  dsimp only [List.set_cons_zero, List.set_cons_succ]
  refine wp_iconst (pc := 59) (v := nI 0) dX7_drawn_59 rfl ?_
  refine wp_istore (pc := 60) (i := 6) dX7_drawn_60 rfl (by decide) rfl ?_
  dsimp only [List.set_cons_zero, List.set_cons_succ]
  rotate_left
  exact loop m 0 h1 (by omega) hR1 hf1
end RDRAWN
