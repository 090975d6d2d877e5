/-! questions to the reference -/
section RASK
variable {G : Gt} {d : Nat} {h : Hp} {T : Tn}
theorem sp7_visitors {c : Nat} {K : Int32 → Hp → Prop} (hR : RW h 0 T) (hO : OKT T) (hc : c < T 0) (k : K (nI (gu T 0 (T 1) c)) h) : Call G (d + 1) mX7_visitors [.ref 89, .int (nI c)] h (pI K) := by
  obtain ⟨o0, o1, o2, o3, o4, o5, o6, o7, o8⟩ := id hO
  have z1 : h 90 1 = nI (T 1) := hR 1 (by omega)
  have loop : ∀ m i, i + m = T 1 → WP G (d + 1) mX7_visitors (pI K) 4 [some (.ref 89), some (.int (nI c)), some (.int (nI (gu T 0 i c))), some (.int (nI i))] [] h := by
    intro m
    induction m with
    | zero =>
      intro i him
      refine wp_iload_n (pc := 4) (i := 3) dX7_visitors_4 rfl rfl ?_
      refine wp_aload_n (pc := 5) (i := 0) dX7_visitors_5 rfl rfl ?_
      refine wp_gfr (pc := 6) fk_X7_7 dX7_visitors_6 rfl rfl (by decide) ?_
      refine wp_iconst (pc := 9) (v := nI 1) dX7_visitors_9 rfl ?_
      first | (with_reducible show WP _ _ _ _ _ _ (Value.int (nI _) :: _) _; refine wp_ialdN (pc := 10) dX7_visitors_10 rfl (by omega) (by first | with_reducible assumption | with_reducible exact hs_same _ _ _ _ | rfl) ?_) | refine wp_iald (pc := 10) dX7_visitors_10 rfl (by assumption) rfl ?_
      first | (with_reducible show WP _ _ _ _ _ _ (Value.int (nI _) :: Value.int (nI _) :: _) _; refine wp_icmp_geN (pc := 11) (tgt := 40) dX7_visitors_11 (by decide) (by omega) (by omega) (fun c11 => ?_) (fun c11 => ?_)) | refine wp_icmp_ge (pc := 11) (tgt := 40) dX7_visitors_11 (by decide) (fun c11 => ?_) (fun c11 => ?_)
      refine wp_iload_n (pc := 40) (i := 2) dX7_visitors_40 rfl rfl ?_
      refine wp_iret (pc := 41) dX7_visitors_41 rfl ?_
      rotate_left
      rotate_left
      · rw [show i = T 1 by omega]; exact k
      · exact absurd him (by omega)
    | succ m ih =>
      intro i him
      have hh := ih (i + 1) (by omega)
      have p0 := (o5 (by omega)).1
      rcases hw : wt T 0 i with _ | e
      · rw [gu, hw, if_neg (by simp)] at hh
        refine wp_iload_n (pc := 4) (i := 3) dX7_visitors_4 rfl rfl ?_
        refine wp_aload_n (pc := 5) (i := 0) dX7_visitors_5 rfl rfl ?_
        refine wp_gfr (pc := 6) fk_X7_7 dX7_visitors_6 rfl rfl (by decide) ?_
        refine wp_iconst (pc := 9) (v := nI 1) dX7_visitors_9 rfl ?_
        first | (with_reducible show WP _ _ _ _ _ _ (Value.int (nI _) :: _) _; refine wp_ialdN (pc := 10) dX7_visitors_10 rfl (by omega) (by first | with_reducible assumption | with_reducible exact hs_same _ _ _ _ | rfl) ?_) | refine wp_iald (pc := 10) dX7_visitors_10 rfl (by assumption) rfl ?_
        first | (with_reducible show WP _ _ _ _ _ _ (Value.int (nI _) :: Value.int (nI _) :: _) _; refine wp_icmp_geN (pc := 11) (tgt := 40) dX7_visitors_11 (by decide) (by omega) (by omega) (fun c11 => ?_) (fun c11 => ?_)) | refine wp_icmp_ge (pc := 11) (tgt := 40) dX7_visitors_11 (by decide) (fun c11 => ?_) (fun c11 => ?_)
        rotate_left
        refine wp_iload_n (pc := 14) (i := 2) dX7_visitors_14 rfl rfl ?_
        refine wp_aload_n (pc := 15) (i := 0) dX7_visitors_15 rfl rfl ?_
        refine wp_iconst (pc := 16) (v := nI 0) dX7_visitors_16 rfl ?_
        refine wp_iload_n (pc := 17) (i := 3) dX7_visitors_17 rfl rfl ?_
        refine wp_cV2i (pc := 18) lk_X7_145 dX7_visitors_18 rfl rfl rfl (sp7_withOf hR hO (by decide) (by omega) hw ?_)
        refine wp_iload_n (pc := 21) (i := 1) dX7_visitors_21 rfl rfl ?_
        first | (with_reducible show WP _ _ _ _ _ _ (Value.int (nI _) :: Value.int (nI _) :: _) _; refine wp_icmp_neN (pc := 22) (tgt := 31) dX7_visitors_22 (by decide) (by omega) (by omega) (fun c22 => ?_) (fun c22 => ?_)) | refine wp_icmp_ne (pc := 22) (tgt := 31) dX7_visitors_22 (by decide) (fun c22 => ?_) (fun c22 => ?_)
        refine wp_iconst (pc := 31) (v := nI 0) dX7_visitors_31 rfl ?_
        first | (with_reducible show WP _ _ _ _ _ _ (Value.int (nI _) :: Value.int (nI _) :: _) _; refine wp_iorN (pc := 32) dX7_visitors_32 ?_) | refine wp_ior (pc := 32) dX7_visitors_32 ?_
        refine wp_istore_n (pc := 33) (i := 2) dX7_visitors_33 rfl rfl (by decide) rfl ?_
        dsimp only [List.set_cons_zero, List.set_cons_succ]
        first | refine wp_iincN (pc := 34) (i := 3) (n := 1) dX7_visitors_34 rfl rfl (by decide) rfl ?_ | refine wp_iinc (pc := 34) (i := 3) dX7_visitors_34 rfl rfl rfl (by decide) rfl ?_
        dsimp only [List.set_cons_zero, List.set_cons_succ]
        refine wp_goto (pc := 37) (tgt := 4) dX7_visitors_37 (by decide) ?_
        rotate_left
        refine wp_iconst (pc := 25) (v := nI 1) dX7_visitors_25 rfl ?_
        refine wp_iload_n (pc := 26) (i := 3) dX7_visitors_26 rfl rfl ?_
        first | (with_reducible show WP _ _ _ _ _ _ (Value.int (nI _) :: Value.int (nI _) :: _) _; refine wp_ishlN (pc := 27) dX7_visitors_27 (by omega) ?_) | refine wp_ishl (pc := 27) dX7_visitors_27 ?_
        refine wp_goto (pc := 28) (tgt := 32) dX7_visitors_28 (by decide) ?_
        first | (with_reducible show WP _ _ _ _ _ _ (Value.int (nI _) :: Value.int (nI _) :: _) _; refine wp_iorN (pc := 32) dX7_visitors_32 ?_) | refine wp_ior (pc := 32) dX7_visitors_32 ?_
        refine wp_istore_n (pc := 33) (i := 2) dX7_visitors_33 rfl rfl (by decide) rfl ?_
        dsimp only [List.set_cons_zero, List.set_cons_succ]
        first | refine wp_iincN (pc := 34) (i := 3) (n := 1) dX7_visitors_34 rfl rfl (by decide) rfl ?_ | refine wp_iinc (pc := 34) (i := 3) dX7_visitors_34 rfl rfl rfl (by decide) rfl ?_
        dsimp only [List.set_cons_zero, List.set_cons_succ]
        refine wp_goto (pc := 37) (tgt := 4) dX7_visitors_37 (by decide) ?_
        rotate_left
        · exact absurd c11 (by omega)
        · exact hh
        · exact absurd (Eq.symm c22) (nI_none (by omega))
      · have he := wt_lt p0 hw
        rw [gu, hw] at hh
        refine wp_iload_n (pc := 4) (i := 3) dX7_visitors_4 rfl rfl ?_
        refine wp_aload_n (pc := 5) (i := 0) dX7_visitors_5 rfl rfl ?_
        refine wp_gfr (pc := 6) fk_X7_7 dX7_visitors_6 rfl rfl (by decide) ?_
        refine wp_iconst (pc := 9) (v := nI 1) dX7_visitors_9 rfl ?_
        first | (with_reducible show WP _ _ _ _ _ _ (Value.int (nI _) :: _) _; refine wp_ialdN (pc := 10) dX7_visitors_10 rfl (by omega) (by first | with_reducible assumption | with_reducible exact hs_same _ _ _ _ | rfl) ?_) | refine wp_iald (pc := 10) dX7_visitors_10 rfl (by assumption) rfl ?_
        first | (with_reducible show WP _ _ _ _ _ _ (Value.int (nI _) :: Value.int (nI _) :: _) _; refine wp_icmp_geN (pc := 11) (tgt := 40) dX7_visitors_11 (by decide) (by omega) (by omega) (fun c11 => ?_) (fun c11 => ?_)) | refine wp_icmp_ge (pc := 11) (tgt := 40) dX7_visitors_11 (by decide) (fun c11 => ?_) (fun c11 => ?_)
        rotate_left
        refine wp_iload_n (pc := 14) (i := 2) dX7_visitors_14 rfl rfl ?_
        refine wp_aload_n (pc := 15) (i := 0) dX7_visitors_15 rfl rfl ?_
        refine wp_iconst (pc := 16) (v := nI 0) dX7_visitors_16 rfl ?_
        refine wp_iload_n (pc := 17) (i := 3) dX7_visitors_17 rfl rfl ?_
        refine wp_cV2i (pc := 18) lk_X7_145 dX7_visitors_18 rfl rfl rfl (sp7_withOf hR hO (by decide) (by omega) hw ?_)
        rotate_left
        · exact absurd c11 (by omega)
        show WP _ _ _ _ 21 _ [.int (nI e), _] _
        refine wp_iload_n (pc := 21) (i := 1) dX7_visitors_21 rfl rfl ?_
        first | (with_reducible show WP _ _ _ _ _ _ (Value.int (nI _) :: Value.int (nI _) :: _) _; refine wp_icmp_neN (pc := 22) (tgt := 31) dX7_visitors_22 (by decide) (by omega) (by omega) (fun c22 => ?_) (fun c22 => ?_)) | refine wp_icmp_ne (pc := 22) (tgt := 31) dX7_visitors_22 (by decide) (fun c22 => ?_) (fun c22 => ?_)
        refine wp_iconst (pc := 31) (v := nI 0) dX7_visitors_31 rfl ?_
        first | (with_reducible show WP _ _ _ _ _ _ (Value.int (nI _) :: Value.int (nI _) :: _) _; refine wp_iorN (pc := 32) dX7_visitors_32 ?_) | refine wp_ior (pc := 32) dX7_visitors_32 ?_
        refine wp_istore_n (pc := 33) (i := 2) dX7_visitors_33 rfl rfl (by decide) rfl ?_
        dsimp only [List.set_cons_zero, List.set_cons_succ]
        first | refine wp_iincN (pc := 34) (i := 3) (n := 1) dX7_visitors_34 rfl rfl (by decide) rfl ?_ | refine wp_iinc (pc := 34) (i := 3) dX7_visitors_34 rfl rfl rfl (by decide) rfl ?_
        dsimp only [List.set_cons_zero, List.set_cons_succ]
        refine wp_goto (pc := 37) (tgt := 4) dX7_visitors_37 (by decide) ?_
        rotate_left
        refine wp_iconst (pc := 25) (v := nI 1) dX7_visitors_25 rfl ?_
        refine wp_iload_n (pc := 26) (i := 3) dX7_visitors_26 rfl rfl ?_
        first | (with_reducible show WP _ _ _ _ _ _ (Value.int (nI _) :: Value.int (nI _) :: _) _; refine wp_ishlN (pc := 27) dX7_visitors_27 (by omega) ?_) | refine wp_ishl (pc := 27) dX7_visitors_27 ?_
        refine wp_goto (pc := 28) (tgt := 32) dX7_visitors_28 (by decide) ?_
        first | (with_reducible show WP _ _ _ _ _ _ (Value.int (nI _) :: Value.int (nI _) :: _) _; refine wp_iorN (pc := 32) dX7_visitors_32 ?_) | refine wp_ior (pc := 32) dX7_visitors_32 ?_
        refine wp_istore_n (pc := 33) (i := 2) dX7_visitors_33 rfl rfl (by decide) rfl ?_
        dsimp only [List.set_cons_zero, List.set_cons_succ]
        first | refine wp_iincN (pc := 34) (i := 3) (n := 1) dX7_visitors_34 rfl rfl (by decide) rfl ?_ | refine wp_iinc (pc := 34) (i := 3) dX7_visitors_34 rfl rfl rfl (by decide) rfl ?_
        dsimp only [List.set_cons_zero, List.set_cons_succ]
        refine wp_goto (pc := 37) (tgt := 4) dX7_visitors_37 (by decide) ?_
        rotate_left
        · rw [if_neg (fun q => c22 (Option.some.inj q))] at hh; exact hh
        · rw [if_pos (congrArg some c22)] at hh
          rw [Nat.one_mul]; exact hh
  refine Call.of (M := mX7_visitors) (n := 2) (by decide +kernel) rfl ?_
  show WP _ _ _ _ 0 [some (.ref 89), some (.int (nI c)), none, none] [] _
  refine wp_iconst (pc := 0) (v := nI 0) dX7_visitors_0 rfl ?_
  refine wp_istore_n (pc := 1) (i := 2) dX7_visitors_1 rfl rfl (by decide) rfl ?_
  dsimp only [List.set_cons_zero, List.set_cons_succ]
  refine wp_iconst (pc := 2) (v := nI 0) dX7_visitors_2 rfl ?_
  refine wp_istore_n (pc := 3) (i := 3) dX7_visitors_3 rfl rfl (by decide) rfl ?_
  dsimp only [List.set_cons_zero, List.set_cons_succ]
  rotate_left
  exact loop (T 1) 0 (by omega)
theorem sr_gran {x y : Int32} {K : Int32 → Hp → Prop} (hR : RW h 0 T) (hO : OKT T) (k : K (fGran T x y) h) : Call G (d + 2) mX7_gran [.ref 89, .int x, .int y] h (pI K) := by
  obtain ⟨o0, o1, o2, o3, o4, o5, o6, o7, o8⟩ := id hO
  have w0 : ∀ k, k < 56 → h 90 k = nI (T k) := fun k hk => by have := hR k hk; rwa [Nat.zero_add] at this
  refine Call.of (M := mX7_gran) (n := 0) (by decide +kernel) rfl ?_
  show WP _ _ _ _ 0 [some (.ref 89), some (.int x), some (.int y)] [] _
  refine wp_aload_n (pc := 0) (i := 0) dX7_gran_0 rfl rfl ?_
  refine wp_iload_n (pc := 1) (i := 1) dX7_gran_1 rfl rfl ?_
  refine wp_cV1i (pc := 2) lk_X7_176 dX7_gran_2 rfl rfl rfl (sp7_isGran hR hO ?_)
  first | (with_reducible show WP _ _ _ _ _ _ (Value.int (bI _) :: _) _; refine wp_if_neB (pc := 5) (tgt := 11) dX7_gran_5 (by decide) (fun c5 => ?_) (fun c5 => ?_)) | (with_reducible show WP _ _ _ _ _ _ (Value.int (nI _) :: _) _; refine wp_if_neN (pc := 5) (tgt := 11) dX7_gran_5 (by decide) (by omega) (fun c5 => ?_) (fun c5 => ?_)) | refine wp_if_ne (pc := 5) (tgt := 11) dX7_gran_5 (by decide) (fun c5 => ?_) (fun c5 => ?_)
  rotate_left
  refine wp_ldc (pc := 8) kn_X7_58 dX7_gran_8 ?_
  refine wp_iret (pc := 10) dX7_gran_10 rfl ?_
  rotate_left
  rotate_left
  · rw [fGran, c5] at k; exact k
  rw [fGran, c5] at k
  obtain ⟨g, hg, rfl⟩ := inN_t (by omega) c5
  rw [nI_clamp (by omega)] at k
  have lb := lz_br T g
  refine wp_iload_n (pc := 11) (i := 2) dX7_gran_11 rfl rfl ?_
  cases hy : inN y 7 with
  | false =>
    rw [sel_f hy] at k
    refine wp_tableOut (tgt := 128) dX7_gran_12 (out_sw hy) (by decide) ?_
    refine wp_ldc (pc := 128) kn_X7_58 dX7_gran_128 ?_
    refine wp_iret (pc := 130) dX7_gran_130 rfl ?_
    rotate_left
    exact k
  | true =>
    obtain ⟨j, hj, rfl⟩ := inN_t (by decide) hy
    rw [sel_t hj (by decide)] at k
    rcases (show j = 0 ∨ j = 1 ∨ j = 2 ∨ j = 3 ∨ j = 4 ∨ j = 5 ∨ j = 6 by omega) with rfl | rfl | rfl | rfl | rfl | rfl | rfl
    · refine wp_tableIn (tgt := 56) dX7_gran_12 (by decide) (by decide) rfl (by decide) ?_
      refine wp_aload_n (pc := 56) (i := 0) dX7_gran_56 rfl rfl ?_
      refine wp_gfr (pc := 57) fk_X7_7 dX7_gran_57 rfl rfl (by decide) ?_
      refine wp_bipush (pc := 60) (v := nI 26) dX7_gran_60 rfl ?_
      refine wp_iload_n (pc := 62) (i := 1) dX7_gran_62 rfl rfl ?_
      first | (with_reducible show WP _ _ _ _ _ _ (Value.int (nI _) :: Value.int (nI _) :: _) _; refine wp_iaddN (pc := 63) dX7_gran_63 ?_) | refine wp_iadd (pc := 63) dX7_gran_63 ?_
      first | (with_reducible show WP _ _ _ _ _ _ (Value.int (nI _) :: _) _; refine wp_ialdN (pc := 64) dX7_gran_64 rfl (by omega) (by first | with_reducible assumption | with_reducible exact hs_same _ _ _ _ | with_reducible exact w0 _ (by omega) | rfl) ?_) | refine wp_iald (pc := 64) dX7_gran_64 rfl (by assumption) rfl ?_
      refine wp_iret (pc := 65) dX7_gran_65 rfl ?_
      rotate_left
      exact k
    · refine wp_tableIn (tgt := 66) dX7_gran_12 (by decide) (by decide) rfl (by decide) ?_
      refine wp_aload_n (pc := 66) (i := 0) dX7_gran_66 rfl rfl ?_
      refine wp_gfr (pc := 67) fk_X7_7 dX7_gran_67 rfl rfl (by decide) ?_
      refine wp_bipush (pc := 70) (v := nI 32) dX7_gran_70 rfl ?_
      refine wp_iload_n (pc := 72) (i := 1) dX7_gran_72 rfl rfl ?_
      first | (with_reducible show WP _ _ _ _ _ _ (Value.int (nI _) :: Value.int (nI _) :: _) _; refine wp_iaddN (pc := 73) dX7_gran_73 ?_) | refine wp_iadd (pc := 73) dX7_gran_73 ?_
      first | (with_reducible show WP _ _ _ _ _ _ (Value.int (nI _) :: _) _; refine wp_ialdN (pc := 74) dX7_gran_74 rfl (by omega) (by first | with_reducible assumption | with_reducible exact hs_same _ _ _ _ | with_reducible exact w0 _ (by omega) | rfl) ?_) | refine wp_iald (pc := 74) dX7_gran_74 rfl (by assumption) rfl ?_
      refine wp_iret (pc := 75) dX7_gran_75 rfl ?_
      rotate_left
      exact k
    · refine wp_tableIn (tgt := 76) dX7_gran_12 (by decide) (by decide) rfl (by decide) ?_
      refine wp_aload_n (pc := 76) (i := 0) dX7_gran_76 rfl rfl ?_
      refine wp_gfr (pc := 77) fk_X7_7 dX7_gran_77 rfl rfl (by decide) ?_
      refine wp_bipush (pc := 80) (v := nI 38) dX7_gran_80 rfl ?_
      refine wp_iload_n (pc := 82) (i := 1) dX7_gran_82 rfl rfl ?_
      first | (with_reducible show WP _ _ _ _ _ _ (Value.int (nI _) :: Value.int (nI _) :: _) _; refine wp_iaddN (pc := 83) dX7_gran_83 ?_) | refine wp_iadd (pc := 83) dX7_gran_83 ?_
      first | (with_reducible show WP _ _ _ _ _ _ (Value.int (nI _) :: _) _; refine wp_ialdN (pc := 84) dX7_gran_84 rfl (by omega) (by first | with_reducible assumption | with_reducible exact hs_same _ _ _ _ | with_reducible exact w0 _ (by omega) | rfl) ?_) | refine wp_iald (pc := 84) dX7_gran_84 rfl (by assumption) rfl ?_
      refine wp_iret (pc := 85) dX7_gran_85 rfl ?_
      rotate_left
      exact k
    · refine wp_tableIn (tgt := 86) dX7_gran_12 (by decide) (by decide) rfl (by decide) ?_
      refine wp_aload_n (pc := 86) (i := 0) dX7_gran_86 rfl rfl ?_
      refine wp_gfr (pc := 87) fk_X7_7 dX7_gran_87 rfl rfl (by decide) ?_
      refine wp_bipush (pc := 90) (v := nI 44) dX7_gran_90 rfl ?_
      refine wp_iload_n (pc := 92) (i := 1) dX7_gran_92 rfl rfl ?_
      first | (with_reducible show WP _ _ _ _ _ _ (Value.int (nI _) :: Value.int (nI _) :: _) _; refine wp_iaddN (pc := 93) dX7_gran_93 ?_) | refine wp_iadd (pc := 93) dX7_gran_93 ?_
      first | (with_reducible show WP _ _ _ _ _ _ (Value.int (nI _) :: _) _; refine wp_ialdN (pc := 94) dX7_gran_94 rfl (by omega) (by first | with_reducible assumption | with_reducible exact hs_same _ _ _ _ | with_reducible exact w0 _ (by omega) | rfl) ?_) | refine wp_iald (pc := 94) dX7_gran_94 rfl (by assumption) rfl ?_
      refine wp_iret (pc := 95) dX7_gran_95 rfl ?_
      rotate_left
      exact k
    · refine wp_tableIn (tgt := 96) dX7_gran_12 (by decide) (by decide) rfl (by decide) ?_
      refine wp_aload_n (pc := 96) (i := 0) dX7_gran_96 rfl rfl ?_
      refine wp_iconst (pc := 97) (v := nI 0) dX7_gran_97 rfl ?_
      refine wp_iload_n (pc := 98) (i := 1) dX7_gran_98 rfl rfl ?_
      refine wp_cV2i (pc := 99) lk_X7_145 dX7_gran_99 rfl rfl rfl (sp7_withOf hR hO (by decide) hg rfl ?_)
      refine wp_iret (pc := 102) dX7_gran_102 rfl ?_
      rotate_left
      exact k
    · refine wp_tableIn (tgt := 103) dX7_gran_12 (by decide) (by decide) rfl (by decide) ?_
      refine wp_aload_n (pc := 103) (i := 0) dX7_gran_103 rfl rfl ?_
      refine wp_iconst (pc := 104) (v := nI 0) dX7_gran_104 rfl ?_
      refine wp_iload_n (pc := 105) (i := 1) dX7_gran_105 rfl rfl ?_
      refine wp_cV2i (pc := 106) lk_X7_161 dX7_gran_106 rfl rfl rfl (sp7_isLost hR hO (by decide) hg lb ?_)
      first | (with_reducible show WP _ _ _ _ _ _ (Value.int (bI _) :: _) _; refine wp_if_eqB (pc := 109) (tgt := 116) dX7_gran_109 (by decide) (fun c109 => ?_) (fun c109 => ?_)) | (with_reducible show WP _ _ _ _ _ _ (Value.int (nI _) :: _) _; refine wp_if_eqN (pc := 109) (tgt := 116) dX7_gran_109 (by decide) (by omega) (fun c109 => ?_) (fun c109 => ?_)) | refine wp_if_eq (pc := 109) (tgt := 116) dX7_gran_109 (by decide) (fun c109 => ?_) (fun c109 => ?_)
      refine wp_iconst (pc := 116) (v := nI 0) dX7_gran_116 rfl ?_
      refine wp_iret (pc := 117) dX7_gran_117 rfl ?_
      rotate_left
      refine wp_iconst (pc := 112) (v := nI 1) dX7_gran_112 rfl ?_
      refine wp_goto (pc := 113) (tgt := 117) dX7_gran_113 (by decide) ?_
      refine wp_iret (pc := 117) dX7_gran_117 rfl ?_
      rotate_left
      · have k2 : K (bI ((wt T 0 g).isSome && !br T 0 g)) h := k
        rw [c109] at k2; exact k2
      · have k2 : K (bI ((wt T 0 g).isSome && !br T 0 g)) h := k
        rw [c109] at k2; exact k2
    · refine wp_tableIn (tgt := 118) dX7_gran_12 (by decide) (by decide) rfl (by decide) ?_
      refine wp_aload_n (pc := 118) (i := 0) dX7_gran_118 rfl rfl ?_
      refine wp_gfr (pc := 119) fk_X7_7 dX7_gran_119 rfl rfl (by decide) ?_
      refine wp_bipush (pc := 122) (v := nI 50) dX7_gran_122 rfl ?_
      refine wp_iload_n (pc := 124) (i := 1) dX7_gran_124 rfl rfl ?_
      first | (with_reducible show WP _ _ _ _ _ _ (Value.int (nI _) :: Value.int (nI _) :: _) _; refine wp_iaddN (pc := 125) dX7_gran_125 ?_) | refine wp_iadd (pc := 125) dX7_gran_125 ?_
      first | (with_reducible show WP _ _ _ _ _ _ (Value.int (nI _) :: _) _; refine wp_ialdN (pc := 126) dX7_gran_126 rfl (by omega) (by first | with_reducible assumption | with_reducible exact hs_same _ _ _ _ | with_reducible exact w0 _ (by omega) | rfl) ?_) | refine wp_iald (pc := 126) dX7_gran_126 rfl (by assumption) rfl ?_
      refine wp_iret (pc := 127) dX7_gran_127 rfl ?_
      rotate_left
      exact k
theorem sr_child {x y : Int32} {K : Int32 → Hp → Prop} (hR : RW h 0 T) (hO : OKT T) (k : K (fChild T x y) h) : Call G (d + 2) mX7_child [.ref 89, .int x, .int y] h (pI K) := by
  obtain ⟨o0, o1, o2, o3, o4, o5, o6, o7, o8⟩ := id hO
  have w0 : ∀ k, k < 56 → h 90 k = nI (T k) := fun k hk => by have := hR k hk; rwa [Nat.zero_add] at this
  refine Call.of (M := mX7_child) (n := 0) (by decide +kernel) rfl ?_
  show WP _ _ _ _ 0 [some (.ref 89), some (.int x), some (.int y)] [] _
  refine wp_aload_n (pc := 0) (i := 0) dX7_child_0 rfl rfl ?_
  refine wp_iload_n (pc := 1) (i := 1) dX7_child_1 rfl rfl ?_
  refine wp_cV1i (pc := 2) lk_X7_184 dX7_child_2 rfl rfl rfl (sp7_isChild hR hO ?_)
  first | (with_reducible show WP _ _ _ _ _ _ (Value.int (bI _) :: _) _; refine wp_if_neB (pc := 5) (tgt := 11) dX7_child_5 (by decide) (fun c5 => ?_) (fun c5 => ?_)) | (with_reducible show WP _ _ _ _ _ _ (Value.int (nI _) :: _) _; refine wp_if_neN (pc := 5) (tgt := 11) dX7_child_5 (by decide) (by omega) (fun c5 => ?_) (fun c5 => ?_)) | refine wp_if_ne (pc := 5) (tgt := 11) dX7_child_5 (by decide) (fun c5 => ?_) (fun c5 => ?_)
  rotate_left
  refine wp_ldc (pc := 8) kn_X7_58 dX7_child_8 ?_
  refine wp_iret (pc := 10) dX7_child_10 rfl ?_
  rotate_left
  rotate_left
  · rw [fChild, c5] at k; exact k
  rw [fChild, c5] at k
  obtain ⟨c, hc, rfl⟩ := inN_t (by omega) c5
  rw [nI_clamp (by omega)] at k
  refine wp_iload_n (pc := 11) (i := 2) dX7_child_11 rfl rfl ?_
  cases hy : inN y 4 with
  | false =>
    rw [sel_f hy] at k
    refine wp_tableOut (tgt := 79) dX7_child_12 (out_sw hy) (by decide) ?_
    refine wp_ldc (pc := 79) kn_X7_58 dX7_child_79 ?_
    refine wp_iret (pc := 81) dX7_child_81 rfl ?_
    rotate_left
    exact k
  | true =>
    obtain ⟨j, hj, rfl⟩ := inN_t (by decide) hy
    rw [sel_t hj (by decide)] at k
    rcases (show j = 0 ∨ j = 1 ∨ j = 2 ∨ j = 3 by omega) with rfl | rfl | rfl | rfl
    · refine wp_tableIn (tgt := 44) dX7_child_12 (by decide) (by decide) rfl (by decide) ?_
      refine wp_aload_n (pc := 44) (i := 0) dX7_child_44 rfl rfl ?_
      refine wp_gfr (pc := 45) fk_X7_7 dX7_child_45 rfl rfl (by decide) ?_
      refine wp_iconst (pc := 48) (v := nI 5) dX7_child_48 rfl ?_
      refine wp_iload_n (pc := 49) (i := 1) dX7_child_49 rfl rfl ?_
      first | (with_reducible show WP _ _ _ _ _ _ (Value.int (nI _) :: Value.int (nI _) :: _) _; refine wp_iaddN (pc := 50) dX7_child_50 ?_) | refine wp_iadd (pc := 50) dX7_child_50 ?_
      first | (with_reducible show WP _ _ _ _ _ _ (Value.int (nI _) :: _) _; refine wp_ialdN (pc := 51) dX7_child_51 rfl (by omega) (by first | with_reducible assumption | with_reducible exact hs_same _ _ _ _ | with_reducible exact w0 _ (by omega) | rfl) ?_) | refine wp_iald (pc := 51) dX7_child_51 rfl (by assumption) rfl ?_
      refine wp_iret (pc := 52) dX7_child_52 rfl ?_
      rotate_left
      exact k
    · refine wp_tableIn (tgt := 53) dX7_child_12 (by decide) (by decide) rfl (by decide) ?_
      refine wp_aload_n (pc := 53) (i := 0) dX7_child_53 rfl rfl ?_
      refine wp_gfr (pc := 54) fk_X7_7 dX7_child_54 rfl rfl (by decide) ?_
      refine wp_bipush (pc := 57) (v := nI 10) dX7_child_57 rfl ?_
      refine wp_iload_n (pc := 59) (i := 1) dX7_child_59 rfl rfl ?_
      first | (with_reducible show WP _ _ _ _ _ _ (Value.int (nI _) :: Value.int (nI _) :: _) _; refine wp_iaddN (pc := 60) dX7_child_60 ?_) | refine wp_iadd (pc := 60) dX7_child_60 ?_
      first | (with_reducible show WP _ _ _ _ _ _ (Value.int (nI _) :: _) _; refine wp_ialdN (pc := 61) dX7_child_61 rfl (by omega) (by first | with_reducible assumption | with_reducible exact hs_same _ _ _ _ | with_reducible exact w0 _ (by omega) | rfl) ?_) | refine wp_iald (pc := 61) dX7_child_61 rfl (by assumption) rfl ?_
      refine wp_iret (pc := 62) dX7_child_62 rfl ?_
      rotate_left
      exact k
    · refine wp_tableIn (tgt := 63) dX7_child_12 (by decide) (by decide) rfl (by decide) ?_
      refine wp_aload_n (pc := 63) (i := 0) dX7_child_63 rfl rfl ?_
      refine wp_gfr (pc := 64) fk_X7_7 dX7_child_64 rfl rfl (by decide) ?_
      refine wp_bipush (pc := 67) (v := nI 15) dX7_child_67 rfl ?_
      refine wp_iload_n (pc := 69) (i := 1) dX7_child_69 rfl rfl ?_
      first | (with_reducible show WP _ _ _ _ _ _ (Value.int (nI _) :: Value.int (nI _) :: _) _; refine wp_iaddN (pc := 70) dX7_child_70 ?_) | refine wp_iadd (pc := 70) dX7_child_70 ?_
      first | (with_reducible show WP _ _ _ _ _ _ (Value.int (nI _) :: _) _; refine wp_ialdN (pc := 71) dX7_child_71 rfl (by omega) (by first | with_reducible assumption | with_reducible exact hs_same _ _ _ _ | with_reducible exact w0 _ (by omega) | rfl) ?_) | refine wp_iald (pc := 71) dX7_child_71 rfl (by assumption) rfl ?_
      refine wp_iret (pc := 72) dX7_child_72 rfl ?_
      rotate_left
      exact k
    · refine wp_tableIn (tgt := 73) dX7_child_12 (by decide) (by decide) rfl (by decide) ?_
      refine wp_aload_n (pc := 73) (i := 0) dX7_child_73 rfl rfl ?_
      refine wp_iload_n (pc := 74) (i := 1) dX7_child_74 rfl rfl ?_
      refine wp_cV1i (pc := 75) lk_X7_194 dX7_child_75 rfl rfl rfl (sp7_visitors hR hO hc ?_)
      refine wp_iret (pc := 78) dX7_child_78 rfl ?_
      rotate_left
      exact k
theorem sr_kind {x : Int32} {K : Int32 → Hp → Prop} (hR : RW h 0 T) (hO : OKT T) (k : K (fKind T x) h) : Call G (d + 2) mX7_kind [.ref 89, .int x] h (pI K) := by
  obtain ⟨o0, o1, o2, o3, o4, o5, o6, o7, o8⟩ := id hO
  have w0 : ∀ k, k < 56 → h 90 k = nI (T k) := fun k hk => by have := hR k hk; rwa [Nat.zero_add] at this
  refine Call.of (M := mX7_kind) (n := 0) (by decide +kernel) rfl ?_
  show WP _ _ _ _ 0 [some (.ref 89), some (.int x)] [] _
  refine wp_aload_n (pc := 0) (i := 0) dX7_kind_0 rfl rfl ?_
  refine wp_iload_n (pc := 1) (i := 1) dX7_kind_1 rfl rfl ?_
  refine wp_cV1i (pc := 2) lk_X7_176 dX7_kind_2 rfl rfl rfl (sp7_isGran hR hO ?_)
  first | (with_reducible show WP _ _ _ _ _ _ (Value.int (bI _) :: _) _; refine wp_if_eqB (pc := 5) (tgt := 20) dX7_kind_5 (by decide) (fun c5 => ?_) (fun c5 => ?_)) | (with_reducible show WP _ _ _ _ _ _ (Value.int (nI _) :: _) _; refine wp_if_eqN (pc := 5) (tgt := 20) dX7_kind_5 (by decide) (by omega) (fun c5 => ?_) (fun c5 => ?_)) | refine wp_if_eq (pc := 5) (tgt := 20) dX7_kind_5 (by decide) (fun c5 => ?_) (fun c5 => ?_)
  refine wp_ldc (pc := 20) kn_X7_58 dX7_kind_20 ?_
  refine wp_iret (pc := 22) dX7_kind_22 rfl ?_
  rotate_left
  rotate_left
  · rw [fKind, c5] at k; exact k
  rw [fKind, c5] at k
  obtain ⟨g, hg, rfl⟩ := inN_t (by omega) c5
  rw [nI_clamp (by omega)] at k
  refine wp_aload_n (pc := 8) (i := 0) dX7_kind_8 rfl rfl ?_
  refine wp_gfr (pc := 9) fk_X7_7 dX7_kind_9 rfl rfl (by decide) ?_
  refine wp_bipush (pc := 12) (v := nI 20) dX7_kind_12 rfl ?_
  refine wp_iload_n (pc := 14) (i := 1) dX7_kind_14 rfl rfl ?_
  first | (with_reducible show WP _ _ _ _ _ _ (Value.int (nI _) :: Value.int (nI _) :: _) _; refine wp_iaddN (pc := 15) dX7_kind_15 ?_) | refine wp_iadd (pc := 15) dX7_kind_15 ?_
  first | (with_reducible show WP _ _ _ _ _ _ (Value.int (nI _) :: _) _; refine wp_ialdN (pc := 16) dX7_kind_16 rfl (by omega) (by first | with_reducible assumption | with_reducible exact hs_same _ _ _ _ | with_reducible exact w0 _ (by omega) | rfl) ?_) | refine wp_iald (pc := 16) dX7_kind_16 rfl (by assumption) rfl ?_
  refine wp_goto (pc := 17) (tgt := 22) dX7_kind_17 (by decide) ?_
  refine wp_iret (pc := 22) dX7_kind_22 rfl ?_
  rotate_left
  exact k
theorem sr_ahead {x n w : Int32} {K : Int32 → Hp → Prop} (hR : RW h 0 T) (hO : OKT T) (hz : 0 < T 0 → 0 < T 1) (hd : T 4 ≤ 999) (k : ∀ h', SR h h' → K (fAhead T x n w) h') : Call G (d + 5) mX7_ahead [.ref 89, .int x, .int n, .int w] h (pI K) := by
  obtain ⟨o0, o1, o2, o3, o4, o5, o6, o7, o8⟩ := id hO
  refine Call.of (M := mX7_ahead) (n := 0) (by decide +kernel) rfl ?_
  show WP _ _ _ _ 0 [some (.ref 89), some (.int x), some (.int n), some (.int w)] [] _
  refine wp_aload_n (pc := 0) (i := 0) dX7_ahead_0 rfl rfl ?_
  refine wp_iload_n (pc := 1) (i := 1) dX7_ahead_1 rfl rfl ?_
  refine wp_cV1i (pc := 2) lk_X7_184 dX7_ahead_2 rfl rfl rfl (sp7_isChild hR hO ?_)
  first | (with_reducible show WP _ _ _ _ _ _ (Value.int (bI _) :: _) _; refine wp_if_eqB (pc := 5) (tgt := 32) dX7_ahead_5 (by decide) (fun c5 => ?_) (fun c5 => ?_)) | (with_reducible show WP _ _ _ _ _ _ (Value.int (nI _) :: _) _; refine wp_if_eqN (pc := 5) (tgt := 32) dX7_ahead_5 (by decide) (by omega) (fun c5 => ?_) (fun c5 => ?_)) | refine wp_if_eq (pc := 5) (tgt := 32) dX7_ahead_5 (by decide) (fun c5 => ?_) (fun c5 => ?_)
  refine wp_ldc (pc := 32) kn_X7_58 dX7_ahead_32 ?_
  refine wp_iret (pc := 34) dX7_ahead_34 rfl ?_
  rotate_left
  refine wp_iload_n (pc := 8) (i := 2) dX7_ahead_8 rfl rfl ?_
  first | (with_reducible show WP _ _ _ _ _ _ (Value.int (nI _) :: _) _; refine wp_i2lN (pc := 9) dX7_ahead_9 (by omega) ?_) | refine wp_i2l (pc := 9) dX7_ahead_9 rfl ?_
  refine wp_lconst (pc := 10) (v := lN 0) dX7_ahead_10 rfl ?_
  refine wp_ldc2 (pc := 11) kn_X7_179 dX7_ahead_11 ?_
  refine wp_cS3i (pc := 14) lk_X7_48 dX7_ahead_14 rfl (sp7_btw (by decide) (by decide) ?_)
  first | (with_reducible show WP _ _ _ _ _ _ (Value.int (bI _) :: _) _; refine wp_if_eqB (pc := 17) (tgt := 32) dX7_ahead_17 (by decide) (fun c17 => ?_) (fun c17 => ?_)) | (with_reducible show WP _ _ _ _ _ _ (Value.int (nI _) :: _) _; refine wp_if_eqN (pc := 17) (tgt := 32) dX7_ahead_17 (by decide) (by omega) (fun c17 => ?_) (fun c17 => ?_)) | refine wp_if_eq (pc := 17) (tgt := 32) dX7_ahead_17 (by decide) (fun c17 => ?_) (fun c17 => ?_)
  refine wp_ldc (pc := 32) kn_X7_58 dX7_ahead_32 ?_
  refine wp_iret (pc := 34) dX7_ahead_34 rfl ?_
  rotate_left
  refine wp_iload_n (pc := 20) (i := 3) dX7_ahead_20 rfl rfl ?_
  first | (with_reducible show WP _ _ _ _ _ _ (Value.int (nI _) :: _) _; refine wp_i2lN (pc := 21) dX7_ahead_21 (by omega) ?_) | refine wp_i2l (pc := 21) dX7_ahead_21 rfl ?_
  refine wp_lconst (pc := 22) (v := lN 0) dX7_ahead_22 rfl ?_
  refine wp_ldc2 (pc := 23) kn_X7_56 dX7_ahead_23 ?_
  refine wp_cS3i (pc := 26) lk_X7_48 dX7_ahead_26 rfl (sp7_btw (by decide) (by decide) ?_)
  first | (with_reducible show WP _ _ _ _ _ _ (Value.int (bI _) :: _) _; refine wp_if_neB (pc := 29) (tgt := 35) dX7_ahead_29 (by decide) (fun c29 => ?_) (fun c29 => ?_)) | (with_reducible show WP _ _ _ _ _ _ (Value.int (nI _) :: _) _; refine wp_if_neN (pc := 29) (tgt := 35) dX7_ahead_29 (by decide) (by omega) (fun c29 => ?_) (fun c29 => ?_)) | refine wp_if_ne (pc := 29) (tgt := 35) dX7_ahead_29 (by decide) (fun c29 => ?_) (fun c29 => ?_)
  rotate_left
  refine wp_ldc (pc := 32) kn_X7_58 dX7_ahead_32 ?_
  refine wp_iret (pc := 34) dX7_ahead_34 rfl ?_
  rotate_left
  · rw [fAhead, c5] at k; exact k h (SR.rf h)
  · rw [fAhead, c5, c17] at k; exact k h (SR.rf h)
  rotate_left
  · rw [fAhead, c5, c17, c29] at k; exact k h (SR.rf h)
  rw [fAhead, c5, c17, c29] at k
  obtain ⟨c, hc, rfl⟩ := inN_t (by omega) c5
  obtain ⟨m, -, hm, rfl⟩ := btw_t (by decide) c17
  obtain ⟨j, -, hj, rfl⟩ := btw_t (by decide) c29
  rw [nI_clamp (by omega), nI_clamp (by omega), nI_clamp (by omega)] at k
  refine wp_aload_n (pc := 35) (i := 0) dX7_ahead_35 rfl rfl ?_
  refine wp_iload_n (pc := 36) (i := 2) dX7_ahead_36 rfl rfl ?_
  refine wp_cV1v (pc := 37) lk_X7_197 dX7_ahead_37 rfl rfl rfl (sp7_layTried hR hO (hz (by omega)) hm (by omega) (fun h1 hR1 hF1 => ?_))
  rotate_left
  have kk := k h1 hF1.sr
  have r5 : h1 90 (1517 + c) = nI (itP T m (5 + c)) := by have := hR1 (5 + c) (by omega); rwa [← Nat.add_assoc] at this
  have r6 : h1 90 (1522 + c) = nI (itP T m (10 + c)) := by have := hR1 (10 + c) (by omega); rwa [← Nat.add_assoc] at this
  have r7 : h1 90 (1527 + c) = nI (itP T m (15 + c)) := by have := hR1 (15 + c) (by omega); rwa [← Nat.add_assoc] at this
  refine wp_iload_n (pc := 40) (i := 3) dX7_ahead_40 rfl rfl ?_
  first | (with_reducible show WP _ _ _ _ _ _ (Value.int (bI _) :: _) _; refine wp_if_neB (pc := 41) (tgt := 57) dX7_ahead_41 (by decide) (fun c41 => ?_) (fun c41 => ?_)) | (with_reducible show WP _ _ _ _ _ _ (Value.int (nI _) :: _) _; refine wp_if_neN (pc := 41) (tgt := 57) dX7_ahead_41 (by decide) (by omega) (fun c41 => ?_) (fun c41 => ?_)) | refine wp_if_ne (pc := 41) (tgt := 57) dX7_ahead_41 (by decide) (fun c41 => ?_) (fun c41 => ?_)
  refine wp_iload_n (pc := 57) (i := 3) dX7_ahead_57 rfl rfl ?_
  refine wp_iconst (pc := 58) (v := nI 1) dX7_ahead_58 rfl ?_
  first | (with_reducible show WP _ _ _ _ _ _ (Value.int (nI _) :: Value.int (nI _) :: _) _; refine wp_icmp_neN (pc := 59) (tgt := 75) dX7_ahead_59 (by decide) (by omega) (by omega) (fun c59 => ?_) (fun c59 => ?_)) | refine wp_icmp_ne (pc := 59) (tgt := 75) dX7_ahead_59 (by decide) (fun c59 => ?_) (fun c59 => ?_)
  refine wp_aload_n (pc := 75) (i := 0) dX7_ahead_75 rfl rfl ?_
  refine wp_gfr (pc := 76) fk_X7_7 dX7_ahead_76 rfl rfl (by decide) ?_
  refine wp_sipush (pc := 79) (v := nI 1527) dX7_ahead_79 rfl ?_
  refine wp_iload_n (pc := 82) (i := 1) dX7_ahead_82 rfl rfl ?_
  first | (with_reducible show WP _ _ _ _ _ _ (Value.int (nI _) :: Value.int (nI _) :: _) _; refine wp_iaddN (pc := 83) dX7_ahead_83 ?_) | refine wp_iadd (pc := 83) dX7_ahead_83 ?_
  first | (with_reducible show WP _ _ _ _ _ _ (Value.int (nI _) :: _) _; refine wp_ialdN (pc := 84) dX7_ahead_84 rfl (by omega) (by first | with_reducible assumption | with_reducible exact hs_same _ _ _ _ | rfl) ?_) | refine wp_iald (pc := 84) dX7_ahead_84 rfl (by assumption) rfl ?_
  refine wp_iret (pc := 85) dX7_ahead_85 rfl ?_
  rotate_left
  refine wp_aload_n (pc := 62) (i := 0) dX7_ahead_62 rfl rfl ?_
  refine wp_gfr (pc := 63) fk_X7_7 dX7_ahead_63 rfl rfl (by decide) ?_
  refine wp_sipush (pc := 66) (v := nI 1522) dX7_ahead_66 rfl ?_
  refine wp_iload_n (pc := 69) (i := 1) dX7_ahead_69 rfl rfl ?_
  first | (with_reducible show WP _ _ _ _ _ _ (Value.int (nI _) :: Value.int (nI _) :: _) _; refine wp_iaddN (pc := 70) dX7_ahead_70 ?_) | refine wp_iadd (pc := 70) dX7_ahead_70 ?_
  first | (with_reducible show WP _ _ _ _ _ _ (Value.int (nI _) :: _) _; refine wp_ialdN (pc := 71) dX7_ahead_71 rfl (by omega) (by first | with_reducible assumption | with_reducible exact hs_same _ _ _ _ | rfl) ?_) | refine wp_iald (pc := 71) dX7_ahead_71 rfl (by assumption) rfl ?_
  refine wp_goto (pc := 72) (tgt := 85) dX7_ahead_72 (by decide) ?_
  refine wp_iret (pc := 85) dX7_ahead_85 rfl ?_
  rotate_left
  refine wp_aload_n (pc := 44) (i := 0) dX7_ahead_44 rfl rfl ?_
  refine wp_gfr (pc := 45) fk_X7_7 dX7_ahead_45 rfl rfl (by decide) ?_
  refine wp_sipush (pc := 48) (v := nI 1517) dX7_ahead_48 rfl ?_
  refine wp_iload_n (pc := 51) (i := 1) dX7_ahead_51 rfl rfl ?_
  first | (with_reducible show WP _ _ _ _ _ _ (Value.int (nI _) :: Value.int (nI _) :: _) _; refine wp_iaddN (pc := 52) dX7_ahead_52 ?_) | refine wp_iadd (pc := 52) dX7_ahead_52 ?_
  first | (with_reducible show WP _ _ _ _ _ _ (Value.int (nI _) :: _) _; refine wp_ialdN (pc := 53) dX7_ahead_53 rfl (by omega) (by first | with_reducible assumption | with_reducible exact hs_same _ _ _ _ | rfl) ?_) | refine wp_iald (pc := 53) dX7_ahead_53 rfl (by assumption) rfl ?_
  refine wp_goto (pc := 54) (tgt := 85) dX7_ahead_54 (by decide) ?_
  refine wp_iret (pc := 85) dX7_ahead_85 rfl ?_
  rotate_left
  · rw [show j = 2 by omega] at kk; exact kk
  · rw [show j = 1 by omega] at kk; exact kk
  · rw [show j = 0 by omega] at kk; exact kk
theorem sr_withWhom {x n : Int32} {K : Int32 → Hp → Prop} (hR : RW h 0 T) (hO : OKT T) (hd : T 4 ≤ 999) (k : ∀ h', SR h h' → K (fWith T x n) h') : Call G (d + 5) mX7_withWhom [.ref 89, .int x, .int n] h (pI K) := by
  obtain ⟨o0, o1, o2, o3, o4, o5, o6, o7, o8⟩ := id hO
  refine Call.of (M := mX7_withWhom) (n := 0) (by decide +kernel) rfl ?_
  show WP _ _ _ _ 0 [some (.ref 89), some (.int x), some (.int n)] [] _
  refine wp_aload_n (pc := 0) (i := 0) dX7_withWhom_0 rfl rfl ?_
  refine wp_iload_n (pc := 1) (i := 1) dX7_withWhom_1 rfl rfl ?_
  refine wp_cV1i (pc := 2) lk_X7_176 dX7_withWhom_2 rfl rfl rfl (sp7_isGran hR hO ?_)
  first | (with_reducible show WP _ _ _ _ _ _ (Value.int (bI _) :: _) _; refine wp_if_eqB (pc := 5) (tgt := 20) dX7_withWhom_5 (by decide) (fun c5 => ?_) (fun c5 => ?_)) | (with_reducible show WP _ _ _ _ _ _ (Value.int (nI _) :: _) _; refine wp_if_eqN (pc := 5) (tgt := 20) dX7_withWhom_5 (by decide) (by omega) (fun c5 => ?_) (fun c5 => ?_)) | refine wp_if_eq (pc := 5) (tgt := 20) dX7_withWhom_5 (by decide) (fun c5 => ?_) (fun c5 => ?_)
  refine wp_ldc (pc := 20) kn_X7_58 dX7_withWhom_20 ?_
  refine wp_iret (pc := 22) dX7_withWhom_22 rfl ?_
  rotate_left
  refine wp_iload_n (pc := 8) (i := 2) dX7_withWhom_8 rfl rfl ?_
  first | (with_reducible show WP _ _ _ _ _ _ (Value.int (nI _) :: _) _; refine wp_i2lN (pc := 9) dX7_withWhom_9 (by omega) ?_) | refine wp_i2l (pc := 9) dX7_withWhom_9 rfl ?_
  refine wp_lconst (pc := 10) (v := lN 0) dX7_withWhom_10 rfl ?_
  refine wp_ldc2 (pc := 11) kn_X7_179 dX7_withWhom_11 ?_
  refine wp_cS3i (pc := 14) lk_X7_48 dX7_withWhom_14 rfl (sp7_btw (by decide) (by decide) ?_)
  first | (with_reducible show WP _ _ _ _ _ _ (Value.int (bI _) :: _) _; refine wp_if_neB (pc := 17) (tgt := 23) dX7_withWhom_17 (by decide) (fun c17 => ?_) (fun c17 => ?_)) | (with_reducible show WP _ _ _ _ _ _ (Value.int (nI _) :: _) _; refine wp_if_neN (pc := 17) (tgt := 23) dX7_withWhom_17 (by decide) (by omega) (fun c17 => ?_) (fun c17 => ?_)) | refine wp_if_ne (pc := 17) (tgt := 23) dX7_withWhom_17 (by decide) (fun c17 => ?_) (fun c17 => ?_)
  rotate_left
  refine wp_ldc (pc := 20) kn_X7_58 dX7_withWhom_20 ?_
  refine wp_iret (pc := 22) dX7_withWhom_22 rfl ?_
  rotate_left
  · rw [fWith, c5] at k; exact k h (SR.rf h)
  rotate_left
  · rw [fWith, c5, c17] at k; exact k h (SR.rf h)
  rw [fWith, c5, c17] at k
  obtain ⟨g, hg, rfl⟩ := inN_t (by omega) c5
  obtain ⟨m, -, hm, rfl⟩ := btw_t (by decide) c17
  rw [nI_clamp (by omega), nI_clamp (by omega)] at k
  obtain ⟨a, b, e⟩ := itP_keep hO (by omega) m (by omega)
  refine wp_aload_n (pc := 23) (i := 0) dX7_withWhom_23 rfl rfl ?_
  refine wp_iload_n (pc := 24) (i := 2) dX7_withWhom_24 rfl rfl ?_
  refine wp_cV1v (pc := 25) lk_X7_197 dX7_withWhom_25 rfl rfl rfl (sp7_layTried hR hO (by omega) hm (by omega) (fun h1 hR1 hF1 => ?_))
  refine wp_aload_n (pc := 28) (i := 0) dX7_withWhom_28 rfl rfl ?_
  refine wp_sipush (pc := 29) (v := nI 1512) dX7_withWhom_29 rfl ?_
  refine wp_iload_n (pc := 32) (i := 1) dX7_withWhom_32 rfl rfl ?_
  refine wp_cV2i (pc := 33) lk_X7_145 dX7_withWhom_33 rfl rfl rfl (sp7_withOf hR1 a (by decide) (by rw [e 1 (by omega)]; exact hg) (wt_it hO (by omega) hg m (by omega)).2 ?_)
  refine wp_iret (pc := 36) dX7_withWhom_36 rfl ?_
  rotate_left
  exact k h1 hF1.sr
theorem sr_whole {x : Int32} {K : Int32 → Hp → Prop} (hR : RW h 0 T) (hO : OKT T) (hz : 0 < T 0 → 0 < T 1) (hd : T 4 ≤ 999) (k : ∀ h', SR h h' → K (fWhole T x) h') : Call G (d + 5) mX7_whole [.ref 89, .int x] h (pI K) := by
  obtain ⟨o0, o1, o2, o3, o4, o5, o6, o7, o8⟩ := id hO
  refine Call.of (M := mX7_whole) (n := 0) (by decide +kernel) rfl ?_
  show WP _ _ _ _ 0 [some (.ref 89), some (.int x)] [] _
  refine wp_aload_n (pc := 0) (i := 0) dX7_whole_0 rfl rfl ?_
  refine wp_iload_n (pc := 1) (i := 1) dX7_whole_1 rfl rfl ?_
  refine wp_cV1i (pc := 2) lk_X7_184 dX7_whole_2 rfl rfl rfl (sp7_isChild hR hO ?_)
  first | (with_reducible show WP _ _ _ _ _ _ (Value.int (bI _) :: _) _; refine wp_if_neB (pc := 5) (tgt := 11) dX7_whole_5 (by decide) (fun c5 => ?_) (fun c5 => ?_)) | (with_reducible show WP _ _ _ _ _ _ (Value.int (nI _) :: _) _; refine wp_if_neN (pc := 5) (tgt := 11) dX7_whole_5 (by decide) (by omega) (fun c5 => ?_) (fun c5 => ?_)) | refine wp_if_ne (pc := 5) (tgt := 11) dX7_whole_5 (by decide) (fun c5 => ?_) (fun c5 => ?_)
  rotate_left
  refine wp_ldc (pc := 8) kn_X7_58 dX7_whole_8 ?_
  refine wp_iret (pc := 10) dX7_whole_10 rfl ?_
  rotate_left
  rotate_left
  · rw [fWhole, c5] at k; exact k h (SR.rf h)
  rw [fWhole, c5] at k
  obtain ⟨c, hc, rfl⟩ := inN_t (by omega) c5
  rw [nI_clamp (by omega)] at k
  refine wp_aload_n (pc := 11) (i := 0) dX7_whole_11 rfl rfl ?_
  refine wp_iconst (pc := 12) (v := nI 0) dX7_whole_12 rfl ?_
  refine wp_cV1v (pc := 13) lk_X7_197 dX7_whole_13 rfl rfl rfl (sp7_layTried hR hO (hz (by omega)) (by decide) (by omega) (fun h1 hR1 hF1 => ?_))
  rotate_left
  have hR1 : RW h1 1512 T := hR1
  have z3 : h1 90 3 = nI (T 3) := by rw [hF1.2 3 (by omega)]; exact hR 3 (by omega)
  refine wp_aload_n (pc := 16) (i := 0) dX7_whole_16 rfl rfl ?_
  refine wp_iload_n (pc := 17) (i := 1) dX7_whole_17 rfl rfl ?_
  refine wp_cV1i (pc := 18) lk_X7_200 dX7_whole_18 rfl rfl rfl (sp7_wholeTried hR1 z3 hO hc (hz (by omega)) (by omega) (fun h2 hF2 => ?_))
  refine wp_iret (pc := 21) dX7_whole_21 rfl ?_
  rotate_left
  exact k h2 (hF1.sr.tr hF2.sr)
theorem sr_hungry {x : Int32} {K : Int32 → Hp → Prop} (hR : RW h 0 T) (hO : OKT T) (hz : 0 < T 0 → 0 < T 1) (hd : T 4 ≤ 999) (k : ∀ h', SR h h' → K (fHungry T x) h') : Call G (d + 5) mX7_hungry [.ref 89, .int x] h (pI K) := by
  obtain ⟨o0, o1, o2, o3, o4, o5, o6, o7, o8⟩ := id hO
  refine Call.of (M := mX7_hungry) (n := 1) (by decide +kernel) rfl ?_
  show WP _ _ _ _ 0 [some (.ref 89), some (.int x), none] [] _
  refine wp_aload_n (pc := 0) (i := 0) dX7_hungry_0 rfl rfl ?_
  refine wp_iload_n (pc := 1) (i := 1) dX7_hungry_1 rfl rfl ?_
  refine wp_cV1i (pc := 2) lk_X7_184 dX7_hungry_2 rfl rfl rfl (sp7_isChild hR hO ?_)
  first | (with_reducible show WP _ _ _ _ _ _ (Value.int (bI _) :: _) _; refine wp_if_neB (pc := 5) (tgt := 11) dX7_hungry_5 (by decide) (fun c5 => ?_) (fun c5 => ?_)) | (with_reducible show WP _ _ _ _ _ _ (Value.int (nI _) :: _) _; refine wp_if_neN (pc := 5) (tgt := 11) dX7_hungry_5 (by decide) (by omega) (fun c5 => ?_) (fun c5 => ?_)) | refine wp_if_ne (pc := 5) (tgt := 11) dX7_hungry_5 (by decide) (fun c5 => ?_) (fun c5 => ?_)
  rotate_left
  refine wp_ldc (pc := 8) kn_X7_58 dX7_hungry_8 ?_
  refine wp_iret (pc := 10) dX7_hungry_10 rfl ?_
  rotate_left
  rotate_left
  · rw [fHungry, c5] at k; exact k h (SR.rf h)
  rw [fHungry, c5] at k
  obtain ⟨c, hc, rfl⟩ := inN_t (by omega) c5
  rw [nI_clamp (by omega)] at k
  have h0 := hz (by omega)
  have loop : ∀ m i h1, i + m = 61 → FB h h1 1512 → RW h1 1512 (itP T i) → (hgr T c 0 61 = hgr T c i m) → WP G (d + 5) mX7_hungry (pI K) 18 [some (.ref 89), some (.int (nI c)), some (.int (nI i))] [] h1 := by
    intro m
    induction m with
    | zero =>
      intro i h1 him hF hR1 hw
      refine wp_iload_n (pc := 18) (i := 2) dX7_hungry_18 rfl rfl ?_
      refine wp_bipush (pc := 19) (v := nI 61) dX7_hungry_19 rfl ?_
      first | (with_reducible show WP _ _ _ _ _ _ (Value.int (nI _) :: Value.int (nI _) :: _) _; refine wp_icmp_geN (pc := 21) (tgt := 52) dX7_hungry_21 (by decide) (by omega) (by omega) (fun c21 => ?_) (fun c21 => ?_)) | refine wp_icmp_ge (pc := 21) (tgt := 52) dX7_hungry_21 (by decide) (fun c21 => ?_) (fun c21 => ?_)
      refine wp_ldc (pc := 52) kn_X7_144 dX7_hungry_52 ?_
      refine wp_iret (pc := 54) dX7_hungry_54 rfl ?_
      rotate_left
      rotate_left
      · rw [hw] at k; exact k h1 hF.sr
      · exact absurd him (by omega)
    | succ m ih =>
      intro i h1 him hF hR1 hw
      obtain ⟨a, b, e⟩ := itP_keep hO h0 i (by omega)
      have r5 : h1 90 (1517 + c) = nI (itP T i (5 + c)) := by have := hR1 (5 + c) (by omega); rwa [← Nat.add_assoc] at this
      have b5 := (a.2.2.2.2.2.2.1 c (by omega)).1
      refine wp_iload_n (pc := 18) (i := 2) dX7_hungry_18 rfl rfl ?_
      refine wp_bipush (pc := 19) (v := nI 61) dX7_hungry_19 rfl ?_
      first | (with_reducible show WP _ _ _ _ _ _ (Value.int (nI _) :: Value.int (nI _) :: _) _; refine wp_icmp_geN (pc := 21) (tgt := 52) dX7_hungry_21 (by decide) (by omega) (by omega) (fun c21 => ?_) (fun c21 => ?_)) | refine wp_icmp_ge (pc := 21) (tgt := 52) dX7_hungry_21 (by decide) (fun c21 => ?_) (fun c21 => ?_)
      rotate_left
      refine wp_aload_n (pc := 24) (i := 0) dX7_hungry_24 rfl rfl ?_
      refine wp_gfr (pc := 25) fk_X7_7 dX7_hungry_25 rfl rfl (by decide) ?_
      refine wp_sipush (pc := 28) (v := nI 1517) dX7_hungry_28 rfl ?_
      refine wp_iload_n (pc := 31) (i := 1) dX7_hungry_31 rfl rfl ?_
      first | (with_reducible show WP _ _ _ _ _ _ (Value.int (nI _) :: Value.int (nI _) :: _) _; refine wp_iaddN (pc := 32) dX7_hungry_32 ?_) | refine wp_iadd (pc := 32) dX7_hungry_32 ?_
      first | (with_reducible show WP _ _ _ _ _ _ (Value.int (nI _) :: _) _; refine wp_ialdN (pc := 33) dX7_hungry_33 rfl (by omega) (by first | with_reducible assumption | with_reducible exact hs_same _ _ _ _ | rfl) ?_) | refine wp_iald (pc := 33) dX7_hungry_33 rfl (by assumption) rfl ?_
      first | (with_reducible show WP _ _ _ _ _ _ (Value.int (bI _) :: _) _; refine wp_if_neB (pc := 34) (tgt := 39) dX7_hungry_34 (by decide) (fun c34 => ?_) (fun c34 => ?_)) | (with_reducible show WP _ _ _ _ _ _ (Value.int (nI _) :: _) _; refine wp_if_neN (pc := 34) (tgt := 39) dX7_hungry_34 (by decide) (by omega) (fun c34 => ?_) (fun c34 => ?_)) | refine wp_if_ne (pc := 34) (tgt := 39) dX7_hungry_34 (by decide) (fun c34 => ?_) (fun c34 => ?_)
      refine wp_aload_n (pc := 39) (i := 0) dX7_hungry_39 rfl rfl ?_
      refine wp_sipush (pc := 40) (v := nI 1512) dX7_hungry_40 rfl ?_
      refine wp_cV1v (pc := 43) lk_X7_172 dX7_hungry_43 rfl rfl rfl (sp7_pass hR1 a (by decide) (by rw [e 1 (by omega)]; exact h0) (by omega) (fun h2 hR2 hF2 => ?_))
      first | refine wp_iincN (pc := 46) (i := 2) (n := 1) dX7_hungry_46 rfl rfl (by decide) rfl ?_ | refine wp_iinc (pc := 46) (i := 2) dX7_hungry_46 rfl rfl rfl (by decide) rfl ?_
      dsimp only [List.set_cons_zero, List.set_cons_succ]
      refine wp_goto (pc := 49) (tgt := 18) dX7_hungry_49 (by decide) ?_
      rotate_left
      refine wp_iload_n (pc := 37) (i := 2) dX7_hungry_37 rfl rfl ?_
      refine wp_iret (pc := 38) dX7_hungry_38 rfl ?_
      rotate_left
      · exact absurd c21 (by omega)
      · refine ih (i + 1) h2 (by omega) (hF.tr hF2) hR2 ?_
        rw [hw, hgr, if_neg c34]
      · rw [hw, hgr, if_pos c34] at k; exact k h1 hF.sr
  refine wp_aload_n (pc := 11) (i := 0) dX7_hungry_11 rfl rfl ?_
  refine wp_iconst (pc := 12) (v := nI 0) dX7_hungry_12 rfl ?_
  refine wp_cV1v (pc := 13) lk_X7_197 dX7_hungry_13 rfl rfl rfl (sp7_layTried hR hO h0 (by decide) (by omega) (fun h1 hR1 hF1 => ?_))
  refine wp_iconst (pc := 16) (v := nI 0) dX7_hungry_16 rfl ?_
  refine wp_istore_n (pc := 17) (i := 2) dX7_hungry_17 rfl rfl (by decide) rfl ?_
  dsimp only [List.set_cons_zero, List.set_cons_succ]
  rotate_left
  exact loop 61 0 h1 (by omega) hF1 hR1 rfl
theorem sr_without {n : Int32} {K : Int32 → Hp → Prop} (hR : RW h 0 T) (hI : h 89 1 = nI (if 0 < T 1 then 1 else 0)) (hO : OKT T) (hd : T 4 ≤ 999) (k : ∀ h', SR h h' → K (fWithout T n) h') : Call G (d + 5) mX7_without [.ref 89, .int n] h (pI K) := by
  obtain ⟨o0, o1, o2, o3, o4, o5, o6, o7, o8⟩ := id hO
  refine Call.of (M := mX7_without) (n := 0) (by decide +kernel) rfl ?_
  show WP _ _ _ _ 0 [some (.ref 89), some (.int n)] [] _
  by_cases h0 : 0 < T 1
  · rw [if_pos h0] at hI
    rw [fWithout, if_neg (by omega)] at k
    refine wp_aload_n (pc := 0) (i := 0) dX7_without_0 rfl rfl ?_
    refine wp_gfv (pc := 1) fk_X7_136 dX7_without_1 rfl rfl (by first | with_reducible assumption | with_reducible exact hs_same _ _ _ _ | rfl) ?_
    first | (with_reducible show WP _ _ _ _ _ _ (Value.int (bI _) :: _) _; refine wp_if_neB (pc := 4) (tgt := 10) dX7_without_4 (by decide) (fun c4 => ?_) (fun c4 => ?_)) | (with_reducible show WP _ _ _ _ _ _ (Value.int (nI _) :: _) _; refine wp_if_neN (pc := 4) (tgt := 10) dX7_without_4 (by decide) (by omega) (fun c4 => ?_) (fun c4 => ?_)) | refine wp_if_ne (pc := 4) (tgt := 10) dX7_without_4 (by decide) (fun c4 => ?_) (fun c4 => ?_)
    refine wp_iload_n (pc := 10) (i := 1) dX7_without_10 rfl rfl ?_
    first | (with_reducible show WP _ _ _ _ _ _ (Value.int (nI _) :: _) _; refine wp_i2lN (pc := 11) dX7_without_11 (by omega) ?_) | refine wp_i2l (pc := 11) dX7_without_11 rfl ?_
    refine wp_lconst (pc := 12) (v := lN 1) dX7_without_12 rfl ?_
    refine wp_ldc2 (pc := 13) kn_X7_179 dX7_without_13 ?_
    refine wp_cS3i (pc := 16) lk_X7_48 dX7_without_16 rfl (sp7_btw (by decide) (by decide) ?_)
    first | (with_reducible show WP _ _ _ _ _ _ (Value.int (bI _) :: _) _; refine wp_if_neB (pc := 19) (tgt := 25) dX7_without_19 (by decide) (fun c19 => ?_) (fun c19 => ?_)) | (with_reducible show WP _ _ _ _ _ _ (Value.int (nI _) :: _) _; refine wp_if_neN (pc := 19) (tgt := 25) dX7_without_19 (by decide) (by omega) (fun c19 => ?_) (fun c19 => ?_)) | refine wp_if_ne (pc := 19) (tgt := 25) dX7_without_19 (by decide) (fun c19 => ?_) (fun c19 => ?_)
    rotate_left
    refine wp_ldc (pc := 22) kn_X7_58 dX7_without_22 ?_
    refine wp_iret (pc := 24) dX7_without_24 rfl ?_
    rotate_left
    rotate_left
    · rw [c19] at k
      obtain ⟨m, -, hm, rfl⟩ := btw_t (by decide) c19
      rw [nI_clamp (by omega)] at k
      refine wp_aload_n (pc := 25) (i := 0) dX7_without_25 rfl rfl ?_
      refine wp_iconst (pc := 26) (v := nI 0) dX7_without_26 rfl ?_
      refine wp_cV1v (pc := 27) lk_X7_197 dX7_without_27 rfl rfl rfl (sp7_layTried hR hO h0 (by decide) (by omega) (fun h1 hR1 hF1 => ?_))
      rotate_left
      have hR1 : RW h1 1512 T := hR1
      have hR0 := hR.fb hF1 (by omega)
      have z1 : h1 90 1 = nI (T 1) := hR0 1 (by omega)
      refine wp_aload_n (pc := 30) (i := 0) dX7_without_30 rfl rfl ?_
      refine wp_cV0i (pc := 31) lk_X7_203 dX7_without_31 rfl rfl rfl (sp7_allChildren hR0 hO ?_)
      refine wp_aload_n (pc := 34) (i := 0) dX7_without_34 rfl rfl ?_
      refine wp_iload_n (pc := 35) (i := 1) dX7_without_35 rfl rfl ?_
      refine wp_cV1i (pc := 36) lk_X7_207 dX7_without_36 rfl rfl rfl (sp7_visitedTried hR1 z1 hO h0 hm (by omega) (fun h2 hF2 => ?_))
      refine wp_iconst (pc := 39) (v := kM1) dX7_without_39 rfl ?_
      first | (with_reducible show WP _ _ _ _ _ _ (Value.int (nI _) :: Value.int (nI _) :: _) _; refine wp_ixorN (pc := 40) dX7_without_40 ?_) | refine wp_ixor (pc := 40) dX7_without_40 ?_
      first | (with_reducible show WP _ _ _ _ _ _ (Value.int (nI _) :: Value.int (nI _) :: _) _; refine wp_iandN (pc := 41) dX7_without_41 ?_) | refine wp_iand (pc := 41) dX7_without_41 ?_
      refine wp_iret (pc := 42) dX7_without_42 rfl ?_
      rotate_left
      exact k h2 (hF1.sr.tr hF2.sr)
    · rw [c19] at k; exact k h (SR.rf h)
    · exact absurd c4 (by decide)
  · rw [if_neg h0] at hI
    rw [fWithout, if_pos (by omega)] at k
    refine wp_aload_n (pc := 0) (i := 0) dX7_without_0 rfl rfl ?_
    refine wp_gfv (pc := 1) fk_X7_136 dX7_without_1 rfl rfl (by first | with_reducible assumption | with_reducible exact hs_same _ _ _ _ | rfl) ?_
    first | (with_reducible show WP _ _ _ _ _ _ (Value.int (bI _) :: _) _; refine wp_if_neB (pc := 4) (tgt := 10) dX7_without_4 (by decide) (fun c4 => ?_) (fun c4 => ?_)) | (with_reducible show WP _ _ _ _ _ _ (Value.int (nI _) :: _) _; refine wp_if_neN (pc := 4) (tgt := 10) dX7_without_4 (by decide) (by omega) (fun c4 => ?_) (fun c4 => ?_)) | refine wp_if_ne (pc := 4) (tgt := 10) dX7_without_4 (by decide) (fun c4 => ?_) (fun c4 => ?_)
    rotate_left
    refine wp_ldc (pc := 7) kn_X7_143 dX7_without_7 ?_
    refine wp_iret (pc := 9) dX7_without_9 rfl ?_
    rotate_left
    · exact absurd rfl c4
    · exact k h (SR.rf h)
theorem sr_meets {x y : Int32} {K : Int32 → Hp → Prop} (hR : RW h 0 T) (hO : OKT T) (hd : T 4 ≤ 999) (k : ∀ h', SR h h' → K (fMeets T x y) h') : Call G (d + 5) mX7_meets [.ref 89, .int x, .int y] h (pI K) := by
  obtain ⟨o0, o1, o2, o3, o4, o5, o6, o7, o8⟩ := id hO
  refine Call.of (M := mX7_meets) (n := 1) (by decide +kernel) rfl ?_
  show WP _ _ _ _ 0 [some (.ref 89), some (.int x), some (.int y), none] [] _
  refine wp_aload_n (pc := 0) (i := 0) dX7_meets_0 rfl rfl ?_
  refine wp_iload_n (pc := 1) (i := 1) dX7_meets_1 rfl rfl ?_
  refine wp_iload_n (pc := 2) (i := 2) dX7_meets_2 rfl rfl ?_
  refine wp_cV2i (pc := 3) lk_X7_189 dX7_meets_3 rfl rfl rfl (sp7_areTwo hR hO ?_)
  first | (with_reducible show WP _ _ _ _ _ _ (Value.int (bI _) :: _) _; refine wp_if_neB (pc := 6) (tgt := 12) dX7_meets_6 (by decide) (fun c6 => ?_) (fun c6 => ?_)) | (with_reducible show WP _ _ _ _ _ _ (Value.int (nI _) :: _) _; refine wp_if_neN (pc := 6) (tgt := 12) dX7_meets_6 (by decide) (by omega) (fun c6 => ?_) (fun c6 => ?_)) | refine wp_if_ne (pc := 6) (tgt := 12) dX7_meets_6 (by decide) (fun c6 => ?_) (fun c6 => ?_)
  rotate_left
  refine wp_ldc (pc := 9) kn_X7_58 dX7_meets_9 ?_
  refine wp_iret (pc := 11) dX7_meets_11 rfl ?_
  rotate_left
  rotate_left
  · rw [fMeets, c6] at k; exact k h (SR.rf h)
  rw [fMeets, c6] at k
  have c6' := c6
  simp only [Bool.and_eq_true] at c6'
  obtain ⟨g, hg, rfl⟩ := inN_t (by omega) c6'.1.1
  obtain ⟨o, ho, rfl⟩ := inN_t (by omega) c6'.1.2
  rw [nI_clamp (by omega), nI_clamp (by omega)] at k
  have h0 : 0 < T 1 := by omega
  have p0 := (o5 h0).1
  have loop : ∀ m i h1, i + m = 61 → FB h h1 1512 → RW h1 1512 (itP T i) → (mts T g o 0 61 = mts T g o i m) → WP G (d + 5) mX7_meets (pI K) 19 [some (.ref 89), some (.int (nI g)), some (.int (nI o)), some (.int (nI i))] [] h1 := by
    intro m
    induction m with
    | zero =>
      intro i h1 him hF hR1 hw
      refine wp_iload_n (pc := 19) (i := 3) dX7_meets_19 rfl rfl ?_
      refine wp_bipush (pc := 20) (v := nI 61) dX7_meets_20 rfl ?_
      first | (with_reducible show WP _ _ _ _ _ _ (Value.int (nI _) :: Value.int (nI _) :: _) _; refine wp_icmp_geN (pc := 22) (tgt := 72) dX7_meets_22 (by decide) (by omega) (by omega) (fun c22 => ?_) (fun c22 => ?_)) | refine wp_icmp_ge (pc := 22) (tgt := 72) dX7_meets_22 (by decide) (fun c22 => ?_) (fun c22 => ?_)
      refine wp_ldc (pc := 72) kn_X7_144 dX7_meets_72 ?_
      refine wp_iret (pc := 74) dX7_meets_74 rfl ?_
      rotate_left
      rotate_left
      · rw [hw] at k; exact k h1 hF.sr
      · exact absurd him (by omega)
    | succ m ih =>
      intro i h1 him hF hR1 hw
      obtain ⟨a, b, e⟩ := itP_keep hO h0 i (by omega)
      have e1 := e 1 (by omega)
      have hwg := (wt_it hO h0 hg i (by omega)).2
      have hwo := (wt_it hO h0 ho i (by omega)).2
      have hg1 : g < itP T i 1 := by omega
      have ho1 : o < itP T i 1 := by omega
      rw [show mts T g o i (m + 1) = (if (wt T i g).isSome && decide (wt T i g = wt T i o) then some i else mts T g o (i + 1) m) from rfl] at hw
      have nx : (mts T g o 0 61 = mts T g o (i + 1) m) → WP G (d + 5) mX7_meets (pI K) 59 [some (.ref 89), some (.int (nI g)), some (.int (nI o)), some (.int (nI i))] [] h1 := by
        intro hq
        refine wp_aload_n (pc := 59) (i := 0) dX7_meets_59 rfl rfl ?_
        refine wp_sipush (pc := 60) (v := nI 1512) dX7_meets_60 rfl ?_
        refine wp_cV1v (pc := 63) lk_X7_172 dX7_meets_63 rfl rfl rfl (sp7_pass hR1 a (by decide) (by omega) (by omega) (fun h2 hR2 hF2 => ?_))
        first | refine wp_iincN (pc := 66) (i := 3) (n := 1) dX7_meets_66 rfl rfl (by decide) rfl ?_ | refine wp_iinc (pc := 66) (i := 3) dX7_meets_66 rfl rfl rfl (by decide) rfl ?_
        dsimp only [List.set_cons_zero, List.set_cons_succ]
        refine wp_goto (pc := 69) (tgt := 19) dX7_meets_69 (by decide) ?_
        rotate_left
        exact ih (i + 1) h2 (by omega) (hF.tr hF2) hR2 hq
      rcases hg2 : wt T i g with _ | c
      · rw [hg2] at hw hwg
        refine wp_iload_n (pc := 19) (i := 3) dX7_meets_19 rfl rfl ?_
        refine wp_bipush (pc := 20) (v := nI 61) dX7_meets_20 rfl ?_
        first | (with_reducible show WP _ _ _ _ _ _ (Value.int (nI _) :: Value.int (nI _) :: _) _; refine wp_icmp_geN (pc := 22) (tgt := 72) dX7_meets_22 (by decide) (by omega) (by omega) (fun c22 => ?_) (fun c22 => ?_)) | refine wp_icmp_ge (pc := 22) (tgt := 72) dX7_meets_22 (by decide) (fun c22 => ?_) (fun c22 => ?_)
        rotate_left
        refine wp_aload_n (pc := 25) (i := 0) dX7_meets_25 rfl rfl ?_
        refine wp_sipush (pc := 26) (v := nI 1512) dX7_meets_26 rfl ?_
        refine wp_iload_n (pc := 29) (i := 1) dX7_meets_29 rfl rfl ?_
        refine wp_cV2i (pc := 30) lk_X7_145 dX7_meets_30 rfl rfl rfl (sp7_withOf hR1 a (by decide) hg1 hwg ?_)
        refine wp_ldc (pc := 33) kn_X7_144 dX7_meets_33 ?_
        first | (with_reducible show WP _ _ _ _ _ _ (Value.int (nI _) :: Value.int (nI _) :: _) _; refine wp_icmp_eqN (pc := 35) (tgt := 59) dX7_meets_35 (by decide) (by omega) (by omega) (fun c35 => ?_) (fun c35 => ?_)) | refine wp_icmp_eq (pc := 35) (tgt := 59) dX7_meets_35 (by decide) (fun c35 => ?_) (fun c35 => ?_)
        rotate_left
        rotate_left
        · exact absurd c22 (by omega)
        · exact nx hw
        · exact absurd rfl c35
      · rw [hg2] at hw hwg
        have hc := wt_lt p0 hg2
        rcases ho2 : wt T i o with _ | u
        · rw [ho2] at hw hwo
          refine wp_iload_n (pc := 19) (i := 3) dX7_meets_19 rfl rfl ?_
          refine wp_bipush (pc := 20) (v := nI 61) dX7_meets_20 rfl ?_
          first | (with_reducible show WP _ _ _ _ _ _ (Value.int (nI _) :: Value.int (nI _) :: _) _; refine wp_icmp_geN (pc := 22) (tgt := 72) dX7_meets_22 (by decide) (by omega) (by omega) (fun c22 => ?_) (fun c22 => ?_)) | refine wp_icmp_ge (pc := 22) (tgt := 72) dX7_meets_22 (by decide) (fun c22 => ?_) (fun c22 => ?_)
          rotate_left
          refine wp_aload_n (pc := 25) (i := 0) dX7_meets_25 rfl rfl ?_
          refine wp_sipush (pc := 26) (v := nI 1512) dX7_meets_26 rfl ?_
          refine wp_iload_n (pc := 29) (i := 1) dX7_meets_29 rfl rfl ?_
          refine wp_cV2i (pc := 30) lk_X7_145 dX7_meets_30 rfl rfl rfl (sp7_withOf hR1 a (by decide) hg1 hwg ?_)
          refine wp_ldc (pc := 33) kn_X7_144 dX7_meets_33 ?_
          first | (with_reducible show WP _ _ _ _ _ _ (Value.int (nI _) :: Value.int (nI _) :: _) _; refine wp_icmp_eqN (pc := 35) (tgt := 59) dX7_meets_35 (by decide) (by omega) (by omega) (fun c35 => ?_) (fun c35 => ?_)) | refine wp_icmp_eq (pc := 35) (tgt := 59) dX7_meets_35 (by decide) (fun c35 => ?_) (fun c35 => ?_)
          rotate_left
          refine wp_aload_n (pc := 38) (i := 0) dX7_meets_38 rfl rfl ?_
          refine wp_sipush (pc := 39) (v := nI 1512) dX7_meets_39 rfl ?_
          refine wp_iload_n (pc := 42) (i := 1) dX7_meets_42 rfl rfl ?_
          refine wp_cV2i (pc := 43) lk_X7_145 dX7_meets_43 rfl rfl rfl (sp7_withOf hR1 a (by decide) hg1 hwg ?_)
          refine wp_aload_n (pc := 46) (i := 0) dX7_meets_46 rfl rfl ?_
          refine wp_sipush (pc := 47) (v := nI 1512) dX7_meets_47 rfl ?_
          refine wp_iload_n (pc := 50) (i := 2) dX7_meets_50 rfl rfl ?_
          refine wp_cV2i (pc := 51) lk_X7_145 dX7_meets_51 rfl rfl rfl (sp7_withOf hR1 a (by decide) ho1 hwo ?_)
          first | (with_reducible show WP _ _ _ _ _ _ (Value.int (nI _) :: Value.int (nI _) :: _) _; refine wp_icmp_neN (pc := 54) (tgt := 59) dX7_meets_54 (by decide) (by omega) (by omega) (fun c54 => ?_) (fun c54 => ?_)) | refine wp_icmp_ne (pc := 54) (tgt := 59) dX7_meets_54 (by decide) (fun c54 => ?_) (fun c54 => ?_)
          rotate_left
          refine wp_iload_n (pc := 57) (i := 3) dX7_meets_57 rfl rfl ?_
          refine wp_iret (pc := 58) dX7_meets_58 rfl ?_
          rotate_left
          · exact absurd c22 (by omega)
          · exact absurd c35 (nI_none (by omega))
          · exact nx (by simpa using hw)
          · exact absurd c54 (nI_none (by omega))
        · rw [ho2] at hw hwo
          have hu := wt_lt p0 ho2
          refine wp_iload_n (pc := 19) (i := 3) dX7_meets_19 rfl rfl ?_
          refine wp_bipush (pc := 20) (v := nI 61) dX7_meets_20 rfl ?_
          first | (with_reducible show WP _ _ _ _ _ _ (Value.int (nI _) :: Value.int (nI _) :: _) _; refine wp_icmp_geN (pc := 22) (tgt := 72) dX7_meets_22 (by decide) (by omega) (by omega) (fun c22 => ?_) (fun c22 => ?_)) | refine wp_icmp_ge (pc := 22) (tgt := 72) dX7_meets_22 (by decide) (fun c22 => ?_) (fun c22 => ?_)
          rotate_left
          refine wp_aload_n (pc := 25) (i := 0) dX7_meets_25 rfl rfl ?_
          refine wp_sipush (pc := 26) (v := nI 1512) dX7_meets_26 rfl ?_
          refine wp_iload_n (pc := 29) (i := 1) dX7_meets_29 rfl rfl ?_
          refine wp_cV2i (pc := 30) lk_X7_145 dX7_meets_30 rfl rfl rfl (sp7_withOf hR1 a (by decide) hg1 hwg ?_)
          refine wp_ldc (pc := 33) kn_X7_144 dX7_meets_33 ?_
          first | (with_reducible show WP _ _ _ _ _ _ (Value.int (nI _) :: Value.int (nI _) :: _) _; refine wp_icmp_eqN (pc := 35) (tgt := 59) dX7_meets_35 (by decide) (by omega) (by omega) (fun c35 => ?_) (fun c35 => ?_)) | refine wp_icmp_eq (pc := 35) (tgt := 59) dX7_meets_35 (by decide) (fun c35 => ?_) (fun c35 => ?_)
          rotate_left
          refine wp_aload_n (pc := 38) (i := 0) dX7_meets_38 rfl rfl ?_
          refine wp_sipush (pc := 39) (v := nI 1512) dX7_meets_39 rfl ?_
          refine wp_iload_n (pc := 42) (i := 1) dX7_meets_42 rfl rfl ?_
          refine wp_cV2i (pc := 43) lk_X7_145 dX7_meets_43 rfl rfl rfl (sp7_withOf hR1 a (by decide) hg1 hwg ?_)
          refine wp_aload_n (pc := 46) (i := 0) dX7_meets_46 rfl rfl ?_
          refine wp_sipush (pc := 47) (v := nI 1512) dX7_meets_47 rfl ?_
          refine wp_iload_n (pc := 50) (i := 2) dX7_meets_50 rfl rfl ?_
          refine wp_cV2i (pc := 51) lk_X7_145 dX7_meets_51 rfl rfl rfl (sp7_withOf hR1 a (by decide) ho1 hwo ?_)
          rotate_left
          · exact absurd c22 (by omega)
          · exact absurd c35 (nI_none (by omega))
          show WP _ _ _ _ 54 _ [.int (nI u), .int (nI c)] _
          first | (with_reducible show WP _ _ _ _ _ _ (Value.int (nI _) :: Value.int (nI _) :: _) _; refine wp_icmp_neN (pc := 54) (tgt := 59) dX7_meets_54 (by decide) (by omega) (by omega) (fun c54 => ?_) (fun c54 => ?_)) | refine wp_icmp_ne (pc := 54) (tgt := 59) dX7_meets_54 (by decide) (fun c54 => ?_) (fun c54 => ?_)
          rotate_left
          refine wp_iload_n (pc := 57) (i := 3) dX7_meets_57 rfl rfl ?_
          refine wp_iret (pc := 58) dX7_meets_58 rfl ?_
          rotate_left
          · refine nx ?_
            rw [decide_eq_false (fun q => c54 (Option.some.inj q))] at hw
            simpa using hw
          · rw [decide_eq_true (congrArg some c54)] at hw
            have hw2 : mts T g o 0 61 = some i := by simpa using hw
            rw [hw2] at k; exact k h1 hF.sr
  refine wp_aload_n (pc := 12) (i := 0) dX7_meets_12 rfl rfl ?_
  refine wp_iconst (pc := 13) (v := nI 0) dX7_meets_13 rfl ?_
  refine wp_cV1v (pc := 14) lk_X7_197 dX7_meets_14 rfl rfl rfl (sp7_layTried hR hO h0 (by decide) (by omega) (fun h1 hR1 hF1 => ?_))
  refine wp_iconst (pc := 17) (v := nI 0) dX7_meets_17 rfl ?_
  refine wp_istore_n (pc := 18) (i := 3) dX7_meets_18 rfl rfl (by decide) rfl ?_
  dsimp only [List.set_cons_zero, List.set_cons_succ]
  rotate_left
  exact loop 61 0 h1 (by omega) hF1 hR1 rfl
end RASK
