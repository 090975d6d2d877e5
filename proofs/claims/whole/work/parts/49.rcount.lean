section RCOUNT
variable {G : Gt} {d : Nat} {h : Hp} {σ : Sg} {T : Tn}
theorem sr_trace {x : Int32} {K : Int32 → Hp → Prop} (H : RI h σ) (hO : OKS σ) (k : K (fTrace σ x) h) : Call G (d + 1) mX7_trace [.ref 89, .int x] h (pI K) := by
  obtain ⟨-, -, -, -, -, -, -, -, k1, k2⟩ := H
  have hl := hO.2.2.2.2.2.2.2
  refine Call.of (M := mX7_trace) (n := 0) (by decide +kernel) rfl ?_
  show WP _ _ _ _ 0 [some (.ref 89), some (.int x)] [] _
  refine wp_iload_n (pc := 0) (i := 1) dX7_trace_0 rfl rfl ?_
  refine wp_i2l (pc := 1) dX7_trace_1 rfl ?_
  refine wp_lconst (pc := 2) (v := lN 0) dX7_trace_2 rfl ?_
  refine wp_aload_n (pc := 3) (i := 0) dX7_trace_3 rfl rfl ?_
  refine wp_gfv (pc := 4) fk_X7_255 dX7_trace_4 rfl rfl (by first | with_reducible assumption | with_reducible exact hs_same _ _ _ _ | rfl) ?_
  refine wp_iconst (pc := 7) (v := nI 1) dX7_trace_7 rfl ?_
  rotate_left
  refine wp_isub (pc := 8) dX7_trace_8 ?_
  refine wp_i2l (pc := 9) dX7_trace_9 rfl ?_
  refine wp_cS3i (pc := 10) lk_X7_48 dX7_trace_10 rfl (sp7_in ?_)
  rw [inG_eq (by omega)]
  first | (with_reducible show WP _ _ _ _ _ _ (Value.int (bI _) :: _) _; refine wp_if_eqB (pc := 13) (tgt := 25) dX7_trace_13 (by decide) (fun c13 => ?_) (fun c13 => ?_)) | (with_reducible show WP _ _ _ _ _ _ (Value.int (nI _) :: _) _; refine wp_if_eqN (pc := 13) (tgt := 25) dX7_trace_13 (by decide) (by omega) (fun c13 => ?_) (fun c13 => ?_)) | refine wp_if_eq (pc := 13) (tgt := 25) dX7_trace_13 (by decide) (fun c13 => ?_) (fun c13 => ?_)
  refine wp_ldc (pc := 25) kn_X7_144 dX7_trace_25 ?_
  refine wp_iret (pc := 27) dX7_trace_27 rfl ?_
  rotate_left
  rotate_left
  · rw [fTrace, c13] at k; exact k
  rw [fTrace, c13] at k
  obtain ⟨i, hi, rfl⟩ := inN_t (by omega) c13
  rw [nI_clamp (show i < 2 ^ 31 by omega), List.getD_eq_getElem?_getD, List.getElem?_eq_getElem hi] at k
  have e := k2 i _ (List.getElem?_eq_getElem hi)
  refine wp_aload_n (pc := 16) (i := 0) dX7_trace_16 rfl rfl ?_
  refine wp_gfr (pc := 17) fk_X7_29 dX7_trace_17 rfl rfl (by decide) ?_
  refine wp_iload_n (pc := 20) (i := 1) dX7_trace_20 rfl rfl ?_
  first | (with_reducible show WP _ _ _ _ _ _ (Value.int (nI _) :: _) _; refine wp_ialdN (pc := 21) dX7_trace_21 rfl (by omega) (by first | with_reducible assumption | with_reducible exact hs_same _ _ _ _ | rfl) ?_) | refine wp_iald (pc := 21) dX7_trace_21 rfl (by assumption) rfl ?_
  refine wp_goto (pc := 22) (tgt := 27) dX7_trace_22 (by decide) ?_
  refine wp_iret (pc := 27) dX7_trace_27 rfl ?_
  rotate_left
  exact k
theorem smU_5 {f : Nat → Nat} {n : Nat} (hn : n ≤ 5) (h0 : ∀ c, n ≤ c → c < 5 → f c = 0) : smU f 5 = smU f n := by
  have : ∀ j, n + j ≤ 5 → smU f (n + j) = smU f n := by
    intro j
    induction j with
    | zero => intro _; rfl
    | succ j ih => intro hj; show smU f (n + j) + f (n + j) = _; rw [h0 _ (by omega) (by omega), ih (by omega)]; rfl
  have e := this (5 - n) (by omega)
  rw [show n + (5 - n) = 5 by omega] at e; exact e
theorem sp7_sumOf {p : Nat} {K : Int32 → Hp → Prop} (hR : RW h 0 T) (hO : OKT T) (hp : p = 5 ∨ p = 10) (k : K (nI (smU (fun c => T (p + c)) (T 0))) h) : Call G d mX7_sumOf [.ref 89, .int (nI p)] h (pI K) := by
  obtain ⟨o0, o1, o2, o3, o4, o5, o6, o7, o8⟩ := id hO
  rw [← smU_5 (f := fun c => T (p + c)) o0 (fun c h1 h2 => by have := o8 c h1 h2; rcases hp with rfl | rfl; exact this.1; exact this.2)] at k
  have hr : ∀ i, i < 5 → h 90 (p + i) = nI (T (p + i)) := fun i hi => by have := hR (p + i) (by omega); rw [Nat.zero_add] at this; exact this
  refine Call.of (M := mX7_sumOf) (n := 2) (by decide +kernel) rfl ?_
  show WP _ _ _ _ 0 [some (.ref 89), some (.int (nI p)), none, none] [] _
  have loop : ∀ m i, i + m = 5 → WP G d mX7_sumOf (pI K) 4 [some (.ref 89), some (.int (nI p)), some (.int (nI (smU (fun c => T (p + c)) i))), some (.int (nI i))] [] h := by
    intro m
    induction m with
    | zero =>
      intro i him
      refine wp_iload_n (pc := 4) (i := 3) dX7_sumOf_4 rfl rfl ?_
      refine wp_iconst (pc := 5) (v := nI 5) dX7_sumOf_5 rfl ?_
      first | (with_reducible show WP _ _ _ _ _ _ (Value.int (nI _) :: Value.int (nI _) :: _) _; refine wp_icmp_geN (pc := 6) (tgt := 26) dX7_sumOf_6 (by decide) (by omega) (by omega) (fun c6 => ?_) (fun c6 => ?_)) | refine wp_icmp_ge (pc := 6) (tgt := 26) dX7_sumOf_6 (by decide) (fun c6 => ?_) (fun c6 => ?_)
      refine wp_iload_n (pc := 26) (i := 2) dX7_sumOf_26 rfl rfl ?_
      refine wp_iret (pc := 27) dX7_sumOf_27 rfl ?_
      rotate_left
      rotate_left
      · rw [show i = 5 by omega]; exact k
      · exact absurd him (by omega)
    | succ m ih =>
      intro i him
      have e := hr i (by omega)
      refine wp_iload_n (pc := 4) (i := 3) dX7_sumOf_4 rfl rfl ?_
      refine wp_iconst (pc := 5) (v := nI 5) dX7_sumOf_5 rfl ?_
      first | (with_reducible show WP _ _ _ _ _ _ (Value.int (nI _) :: Value.int (nI _) :: _) _; refine wp_icmp_geN (pc := 6) (tgt := 26) dX7_sumOf_6 (by decide) (by omega) (by omega) (fun c6 => ?_) (fun c6 => ?_)) | refine wp_icmp_ge (pc := 6) (tgt := 26) dX7_sumOf_6 (by decide) (fun c6 => ?_) (fun c6 => ?_)
      rotate_left
      refine wp_iload_n (pc := 9) (i := 2) dX7_sumOf_9 rfl rfl ?_
      refine wp_aload_n (pc := 10) (i := 0) dX7_sumOf_10 rfl rfl ?_
      refine wp_gfr (pc := 11) fk_X7_7 dX7_sumOf_11 rfl rfl (by decide) ?_
      refine wp_iload_n (pc := 14) (i := 1) dX7_sumOf_14 rfl rfl ?_
      refine wp_iload_n (pc := 15) (i := 3) dX7_sumOf_15 rfl rfl ?_
      first | (with_reducible show WP _ _ _ _ _ _ (Value.int (nI _) :: Value.int (nI _) :: _) _; refine wp_iaddN (pc := 16) dX7_sumOf_16 ?_) | refine wp_iadd (pc := 16) dX7_sumOf_16 ?_
      first | (with_reducible show WP _ _ _ _ _ _ (Value.int (nI _) :: _) _; refine wp_ialdN (pc := 17) dX7_sumOf_17 rfl (by omega) (by first | with_reducible assumption | with_reducible exact hs_same _ _ _ _ | rfl) ?_) | refine wp_iald (pc := 17) dX7_sumOf_17 rfl (by assumption) rfl ?_
      first | (with_reducible show WP _ _ _ _ _ _ (Value.int (nI _) :: Value.int (nI _) :: _) _; refine wp_iaddN (pc := 18) dX7_sumOf_18 ?_) | refine wp_iadd (pc := 18) dX7_sumOf_18 ?_
      refine wp_istore_n (pc := 19) (i := 2) dX7_sumOf_19 rfl rfl (by decide) rfl ?_
      dsimp only [List.set_cons_zero, List.set_cons_succ]
      first | refine wp_iincN (pc := 20) (i := 3) (n := 1) dX7_sumOf_20 rfl rfl (by decide) rfl ?_ | refine wp_iinc (pc := 20) (i := 3) dX7_sumOf_20 rfl rfl rfl (by decide) rfl ?_
      dsimp only [List.set_cons_zero, List.set_cons_succ]
      refine wp_goto (pc := 23) (tgt := 4) dX7_sumOf_23 (by decide) ?_
      rotate_left
      · exact absurd him (by omega)
      · exact ih (i + 1) (by omega)
  refine wp_iconst (pc := 0) (v := nI 0) dX7_sumOf_0 rfl ?_
  refine wp_istore_n (pc := 1) (i := 2) dX7_sumOf_1 rfl rfl (by decide) rfl ?_
  dsimp only [List.set_cons_zero, List.set_cons_succ]
  refine wp_iconst (pc := 2) (v := nI 0) dX7_sumOf_2 rfl ?_
  refine wp_istore_n (pc := 3) (i := 3) dX7_sumOf_3 rfl rfl (by decide) rfl ?_
  dsimp only [List.set_cons_zero, List.set_cons_succ]
  rotate_left
  exact loop 5 0 rfl
theorem sr_count {x : Int32} {K : Int32 → Hp → Prop} (H : RI h σ) (hO : OKS σ) (k : K (fCount σ x) h) : Call G (d + 2) mX7_count [.ref 89, .int x] h (pI K) := by
  obtain ⟨hR, -, ⟨a1, a2, a3⟩, -, hRR, hB, -⟩ := id H
  have hOT := hO.1.1
  have o0 := hOT.1
  have b1 := hB.1
  have e0 : h 90 0 = nI (gT σ 0) := hR 0 (by omega)
  have e1 : h 90 1 = nI (gT σ 1) := hR 1 (by omega)
  have e4 : h 90 4 = nI (gT σ 4) := hR 4 (by omega)
  refine Call.of (M := mX7_count) (n := 2) (by decide +kernel) rfl ?_
  show WP _ _ _ _ 0 [some (.ref 89), some (.int x), none, none] [] _
  refine wp_iconst (pc := 0) (v := nI 0) dX7_count_0 rfl ?_
  refine wp_istore_n (pc := 1) (i := 2) dX7_count_1 rfl rfl (by decide) rfl ?_
  dsimp only [List.set_cons_zero, List.set_cons_succ]
  refine wp_iload_n (pc := 2) (i := 1) dX7_count_2 rfl rfl ?_
  rotate_left
  by_cases hx : btw x 0 7 = true
  · obtain ⟨m, -, hm, rfl⟩ := btw_t (by decide) hx
    rcases (show m = 0 ∨ m = 1 ∨ m = 2 ∨ m = 3 ∨ m = 4 ∨ m = 5 ∨ m = 6 ∨ m = 7 by omega) with rfl | rfl | rfl | rfl | rfl | rfl | rfl | rfl
    · rw [fCount, if_pos rfl] at k
      refine wp_tableIn (tgt := 48) dX7_count_3 (by decide) (by decide) rfl (by decide) ?_
      have loop : ∀ m i, i + m = 8 → WP G (d + 2) mX7_count (pI K) 50 [some (.ref 89), some (.int (nI 0)), some (.int (nI (smU (fun r => if (gR σ r).isNone then 0 else 1) i))), some (.int (nI i))] [] h := by
        intro m
        induction m with
        | zero =>
          intro i him
          refine wp_iload_n (pc := 50) (i := 3) dX7_count_50 rfl rfl ?_
          refine wp_bipush (pc := 51) (v := nI 8) dX7_count_51 rfl ?_
          first | (with_reducible show WP _ _ _ _ _ _ (Value.int (nI _) :: Value.int (nI _) :: _) _; refine wp_icmp_geN (pc := 53) (tgt := 79) dX7_count_53 (by decide) (by omega) (by omega) (fun c53 => ?_) (fun c53 => ?_)) | refine wp_icmp_ge (pc := 53) (tgt := 79) dX7_count_53 (by decide) (fun c53 => ?_) (fun c53 => ?_)
          refine wp_iload_n (pc := 79) (i := 2) dX7_count_79 rfl rfl ?_
          refine wp_iret (pc := 80) dX7_count_80 rfl ?_
          rotate_left
          rotate_left
          · rw [show i = 8 by omega]; exact k
          · exact absurd him (by omega)
        | succ m ih =>
          intro i him
          have z := hRR i (by omega)
          have ih := ih (i + 1) (by omega)
          have es : smU (fun r => if (gR σ r).isNone then 0 else 1) (i + 1) = smU (fun r => if (gR σ r).isNone then 0 else 1) i + (if (gR σ i).isNone then 0 else 1) := rfl
          rw [es] at ih
          cases hq : gR σ i with
          | none =>
            rw [hq] at z ih
            have z : h 93 i = kM1 := z
            refine wp_iload_n (pc := 50) (i := 3) dX7_count_50 rfl rfl ?_
            refine wp_bipush (pc := 51) (v := nI 8) dX7_count_51 rfl ?_
            first | (with_reducible show WP _ _ _ _ _ _ (Value.int (nI _) :: Value.int (nI _) :: _) _; refine wp_icmp_geN (pc := 53) (tgt := 79) dX7_count_53 (by decide) (by omega) (by omega) (fun c53 => ?_) (fun c53 => ?_)) | refine wp_icmp_ge (pc := 53) (tgt := 79) dX7_count_53 (by decide) (fun c53 => ?_) (fun c53 => ?_)
            rotate_left
            refine wp_iload_n (pc := 56) (i := 2) dX7_count_56 rfl rfl ?_
            refine wp_aload_n (pc := 57) (i := 0) dX7_count_57 rfl rfl ?_
            refine wp_gfr (pc := 58) fk_X7_20 dX7_count_58 rfl rfl (by decide) ?_
            refine wp_iload_n (pc := 61) (i := 3) dX7_count_61 rfl rfl ?_
            first | (with_reducible show WP _ _ _ _ _ _ (Value.int (nI _) :: _) _; refine wp_ialdN (pc := 62) dX7_count_62 rfl (by omega) (by first | with_reducible assumption | with_reducible exact hs_same _ _ _ _ | rfl) ?_) | refine wp_iald (pc := 62) dX7_count_62 rfl (by assumption) rfl ?_
            rotate_left
            · exact absurd him (by omega)
            refine wp_if_ge (pc := 63) (tgt := 70) dX7_count_63 (by decide) (fun c63 => absurd c63 (by decide)) (fun c63 => ?_)
            refine wp_iconst (pc := 66) (v := nI 0) dX7_count_66 rfl ?_
            refine wp_goto (pc := 67) (tgt := 71) dX7_count_67 (by decide) ?_
            first | (with_reducible show WP _ _ _ _ _ _ (Value.int (nI _) :: Value.int (nI _) :: _) _; refine wp_iaddN (pc := 71) dX7_count_71 ?_) | refine wp_iadd (pc := 71) dX7_count_71 ?_
            refine wp_istore_n (pc := 72) (i := 2) dX7_count_72 rfl rfl (by decide) rfl ?_
            dsimp only [List.set_cons_zero, List.set_cons_succ]
            first | refine wp_iincN (pc := 73) (i := 3) (n := 1) dX7_count_73 rfl rfl (by decide) rfl ?_ | refine wp_iinc (pc := 73) (i := 3) dX7_count_73 rfl rfl rfl (by decide) rfl ?_
            dsimp only [List.set_cons_zero, List.set_cons_succ]
            refine wp_goto (pc := 76) (tgt := 50) dX7_count_76 (by decide) ?_
            rotate_left
            exact ih
          | some y =>
            rw [hq] at z ih
            have z : h 93 i = nI y.2.1 := z.1
            have y4 := (hO.2.2.2.1 i y hq).2
            refine wp_iload_n (pc := 50) (i := 3) dX7_count_50 rfl rfl ?_
            refine wp_bipush (pc := 51) (v := nI 8) dX7_count_51 rfl ?_
            first | (with_reducible show WP _ _ _ _ _ _ (Value.int (nI _) :: Value.int (nI _) :: _) _; refine wp_icmp_geN (pc := 53) (tgt := 79) dX7_count_53 (by decide) (by omega) (by omega) (fun c53 => ?_) (fun c53 => ?_)) | refine wp_icmp_ge (pc := 53) (tgt := 79) dX7_count_53 (by decide) (fun c53 => ?_) (fun c53 => ?_)
            rotate_left
            refine wp_iload_n (pc := 56) (i := 2) dX7_count_56 rfl rfl ?_
            refine wp_aload_n (pc := 57) (i := 0) dX7_count_57 rfl rfl ?_
            refine wp_gfr (pc := 58) fk_X7_20 dX7_count_58 rfl rfl (by decide) ?_
            refine wp_iload_n (pc := 61) (i := 3) dX7_count_61 rfl rfl ?_
            first | (with_reducible show WP _ _ _ _ _ _ (Value.int (nI _) :: _) _; refine wp_ialdN (pc := 62) dX7_count_62 rfl (by omega) (by first | with_reducible assumption | with_reducible exact hs_same _ _ _ _ | rfl) ?_) | refine wp_iald (pc := 62) dX7_count_62 rfl (by assumption) rfl ?_
            first | (with_reducible show WP _ _ _ _ _ _ (Value.int (nI _) :: _) _; refine wp_if_geN (pc := 63) (tgt := 70) dX7_count_63 (by decide) (by omega) (fun c63 => ?_) (fun c63 => ?_)) | refine wp_if_ge (pc := 63) (tgt := 70) dX7_count_63 (by decide) (fun c63 => ?_) (fun c63 => ?_)
            refine wp_iconst (pc := 70) (v := nI 1) dX7_count_70 rfl ?_
            first | (with_reducible show WP _ _ _ _ _ _ (Value.int (nI _) :: Value.int (nI _) :: _) _; refine wp_iaddN (pc := 71) dX7_count_71 ?_) | refine wp_iadd (pc := 71) dX7_count_71 ?_
            refine wp_istore_n (pc := 72) (i := 2) dX7_count_72 rfl rfl (by decide) rfl ?_
            dsimp only [List.set_cons_zero, List.set_cons_succ]
            first | refine wp_iincN (pc := 73) (i := 3) (n := 1) dX7_count_73 rfl rfl (by decide) rfl ?_ | refine wp_iinc (pc := 73) (i := 3) dX7_count_73 rfl rfl rfl (by decide) rfl ?_
            dsimp only [List.set_cons_zero, List.set_cons_succ]
            refine wp_goto (pc := 76) (tgt := 50) dX7_count_76 (by decide) ?_
            rotate_left
            rotate_left
            · exact absurd him (by omega)
            · exact ih
            · exact absurd c63 (by omega)
      refine wp_iconst (pc := 48) (v := nI 0) dX7_count_48 rfl ?_
      refine wp_istore_n (pc := 49) (i := 3) dX7_count_49 rfl rfl (by decide) rfl ?_
      dsimp only [List.set_cons_zero, List.set_cons_succ]
      rotate_left
      exact loop 8 0 rfl
    · rw [fCount, if_neg (by decide), if_pos rfl] at k
      refine wp_tableIn (tgt := 81) dX7_count_3 (by decide) (by decide) rfl (by decide) ?_
      refine wp_aload_n (pc := 81) (i := 0) dX7_count_81 rfl rfl ?_
      refine wp_gfr (pc := 82) fk_X7_7 dX7_count_82 rfl rfl (by decide) ?_
      refine wp_iconst (pc := 85) (v := nI 0) dX7_count_85 rfl ?_
      first | (with_reducible show WP _ _ _ _ _ _ (Value.int (nI _) :: _) _; refine wp_ialdN (pc := 86) dX7_count_86 rfl (by omega) (by first | with_reducible assumption | with_reducible exact hs_same _ _ _ _ | rfl) ?_) | refine wp_iald (pc := 86) dX7_count_86 rfl (by assumption) rfl ?_
      refine wp_iret (pc := 87) dX7_count_87 rfl ?_
      rotate_left
      exact k
    · rw [fCount, if_neg (by decide), if_neg (by decide), if_pos rfl] at k
      refine wp_tableIn (tgt := 88) dX7_count_3 (by decide) (by decide) rfl (by decide) ?_
      refine wp_aload_n (pc := 88) (i := 0) dX7_count_88 rfl rfl ?_
      refine wp_gfr (pc := 89) fk_X7_7 dX7_count_89 rfl rfl (by decide) ?_
      refine wp_iconst (pc := 92) (v := nI 1) dX7_count_92 rfl ?_
      first | (with_reducible show WP _ _ _ _ _ _ (Value.int (nI _) :: _) _; refine wp_ialdN (pc := 93) dX7_count_93 rfl (by omega) (by first | with_reducible assumption | with_reducible exact hs_same _ _ _ _ | rfl) ?_) | refine wp_iald (pc := 93) dX7_count_93 rfl (by assumption) rfl ?_
      refine wp_iret (pc := 94) dX7_count_94 rfl ?_
      rotate_left
      exact k
    · rw [fCount, if_neg (by decide), if_neg (by decide), if_neg (by decide), if_pos rfl] at k
      refine wp_tableIn (tgt := 95) dX7_count_3 (by decide) (by decide) rfl (by decide) ?_
      refine wp_aload_n (pc := 95) (i := 0) dX7_count_95 rfl rfl ?_
      refine wp_gfr (pc := 96) fk_X7_7 dX7_count_96 rfl rfl (by decide) ?_
      refine wp_iconst (pc := 99) (v := nI 4) dX7_count_99 rfl ?_
      first | (with_reducible show WP _ _ _ _ _ _ (Value.int (nI _) :: _) _; refine wp_ialdN (pc := 100) dX7_count_100 rfl (by omega) (by first | with_reducible assumption | with_reducible exact hs_same _ _ _ _ | rfl) ?_) | refine wp_iald (pc := 100) dX7_count_100 rfl (by assumption) rfl ?_
      refine wp_iret (pc := 101) dX7_count_101 rfl ?_
      rotate_left
      exact k
    · rw [fCount, if_neg (by decide), if_neg (by decide), if_neg (by decide), if_neg (by decide), if_pos rfl] at k
      refine wp_tableIn (tgt := 102) dX7_count_3 (by decide) (by decide) rfl (by decide) ?_
      refine wp_aload_n (pc := 102) (i := 0) dX7_count_102 rfl rfl ?_
      refine wp_iconst (pc := 103) (v := nI 5) dX7_count_103 rfl ?_
      refine wp_cV1i (pc := 104) lk_X7_249 dX7_count_104 rfl rfl rfl (sp7_sumOf hR hOT (Or.inl rfl) ?_)
      refine wp_iret (pc := 107) dX7_count_107 rfl ?_
      rotate_left
      exact k
    · rw [fCount, if_neg (by decide), if_neg (by decide), if_neg (by decide), if_neg (by decide), if_neg (by decide), if_pos rfl] at k
      refine wp_tableIn (tgt := 108) dX7_count_3 (by decide) (by decide) rfl (by decide) ?_
      refine wp_aload_n (pc := 108) (i := 0) dX7_count_108 rfl rfl ?_
      refine wp_bipush (pc := 109) (v := nI 10) dX7_count_109 rfl ?_
      refine wp_cV1i (pc := 111) lk_X7_249 dX7_count_111 rfl rfl rfl (sp7_sumOf hR hOT (Or.inr rfl) ?_)
      refine wp_iret (pc := 114) dX7_count_114 rfl ?_
      rotate_left
      exact k
    · rw [fCount, if_neg (by decide), if_neg (by decide), if_neg (by decide), if_neg (by decide), if_neg (by decide), if_neg (by decide), if_pos rfl] at k
      refine wp_tableIn (tgt := 115) dX7_count_3 (by decide) (by decide) rfl (by decide) ?_
      refine wp_aload_n (pc := 115) (i := 0) dX7_count_115 rfl rfl ?_
      refine wp_gfv (pc := 116) fk_X7_140 dX7_count_116 rfl rfl (by first | with_reducible assumption | with_reducible exact hs_same _ _ _ _ | rfl) ?_
      refine wp_iret (pc := 119) dX7_count_119 rfl ?_
      rotate_left
      exact k
    · rw [fCount, if_neg (by decide), if_neg (by decide), if_neg (by decide), if_neg (by decide), if_neg (by decide), if_neg (by decide), if_neg (by decide), if_pos rfl] at k
      refine wp_tableIn (tgt := 120) dX7_count_3 (by decide) (by decide) rfl (by decide) ?_
      refine wp_aload_n (pc := 120) (i := 0) dX7_count_120 rfl rfl ?_
      refine wp_gfv (pc := 121) fk_X7_76 dX7_count_121 rfl rfl (by first | with_reducible assumption | with_reducible exact hs_same _ _ _ _ | rfl) ?_
      refine wp_iret (pc := 124) dX7_count_124 rfl ?_
      rotate_left
      exact k
  · obtain ⟨n, q⟩ := btw_n hx
    rw [fCount, if_neg (n 0 (by omega)), if_neg (n 1 (by omega)), if_neg (n 2 (by omega)), if_neg (n 3 (by omega)), if_neg (n 4 (by omega)), if_neg (n 5 (by omega)), if_neg (n 6 (by omega)), if_neg (n 7 (by omega))] at k
    refine wp_tableOut (tgt := 125) dX7_count_3 q (by decide) ?_
    refine wp_ldc (pc := 125) kn_X7_58 dX7_count_125 ?_
    refine wp_iret (pc := 127) dX7_count_127 rfl ?_
    rotate_left
    exact k
end RCOUNT
