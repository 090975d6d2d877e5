section RSOON
variable {G : Gt} {d : Nat} {h : Hp} {T : Tn}
theorem sr_soon {x w : Int32} {K : Int32 → Hp → Prop} (hR : RW h 0 T) (hO : OKT T) (hz : 0 < T 0 → 0 < T 1) (hd : T 4 ≤ 999) (k : ∀ h', SR h h' → K (fSoon T x w) h') : Call G (d + 5) mX7_soon [.ref 89, .int x, .int w] h (pI K) := by
  obtain ⟨o0, o1, o2, o3, o4, o5, o6, o7, o8⟩ := id hO
  refine Call.of (M := mX7_soon) (n := 5) (by decide +kernel) rfl ?_
  show WP _ _ _ _ 0 [some (.ref 89), some (.int x), some (.int w), none, none, none, none, none] [] _
  refine wp_aload_n (pc := 0) (i := 0) dX7_soon_0 rfl rfl ?_
  refine wp_iload_n (pc := 1) (i := 1) dX7_soon_1 rfl rfl ?_
  refine wp_cV1i (pc := 2) lk_X7_184 dX7_soon_2 rfl rfl rfl (sp7_isChild hR hO ?_)
  first | (with_reducible show WP _ _ _ _ _ _ (Value.int (bI _) :: _) _; refine wp_if_eqB (pc := 5) (tgt := 18) dX7_soon_5 (by decide) (fun c5 => ?_) (fun c5 => ?_)) | (with_reducible show WP _ _ _ _ _ _ (Value.int (nI _) :: _) _; refine wp_if_eqN (pc := 5) (tgt := 18) dX7_soon_5 (by decide) (by omega) (fun c5 => ?_) (fun c5 => ?_)) | refine wp_if_eq (pc := 5) (tgt := 18) dX7_soon_5 (by decide) (fun c5 => ?_) (fun c5 => ?_)
  refine wp_ldc (pc := 18) kn_X7_58 dX7_soon_18 ?_
  refine wp_iret (pc := 20) dX7_soon_20 rfl ?_
  rotate_left
  refine wp_iload_n (pc := 8) (i := 2) dX7_soon_8 rfl rfl ?_
  first | (with_reducible show WP _ _ _ _ _ _ (Value.int (nI _) :: _) _; refine wp_i2lN (pc := 9) dX7_soon_9 (by omega) ?_) | refine wp_i2l (pc := 9) dX7_soon_9 rfl ?_
  refine wp_lconst (pc := 10) (v := lN 0) dX7_soon_10 rfl ?_
  refine wp_lconst (pc := 11) (v := lN 1) dX7_soon_11 rfl ?_
  refine wp_cS3i (pc := 12) lk_X7_48 dX7_soon_12 rfl (sp7_btw (by decide) (by decide) ?_)
  first | (with_reducible show WP _ _ _ _ _ _ (Value.int (bI _) :: _) _; refine wp_if_neB (pc := 15) (tgt := 21) dX7_soon_15 (by decide) (fun c15 => ?_) (fun c15 => ?_)) | (with_reducible show WP _ _ _ _ _ _ (Value.int (nI _) :: _) _; refine wp_if_neN (pc := 15) (tgt := 21) dX7_soon_15 (by decide) (by omega) (fun c15 => ?_) (fun c15 => ?_)) | refine wp_if_ne (pc := 15) (tgt := 21) dX7_soon_15 (by decide) (fun c15 => ?_) (fun c15 => ?_)
  rotate_left
  refine wp_ldc (pc := 18) kn_X7_58 dX7_soon_18 ?_
  refine wp_iret (pc := 20) dX7_soon_20 rfl ?_
  rotate_left
  · rw [fSoon, c5] at k; exact k h (SR.rf h)
  rotate_left
  · rw [fSoon, c5, c15] at k; exact k h (SR.rf h)
  rw [fSoon, c5, c15] at k
  obtain ⟨c, hc, rfl⟩ := inN_t (by omega) c5
  obtain ⟨m, -, hm, rfl⟩ := btw_t (by decide) c15
  rw [nI_clamp (by omega)] at k
  have em : nI m = nI 0 ↔ m = 0 := nI_eq (by omega) (by decide)
  have e1 : h 90 1 = nI (T 1) := hR 1 (by omega)
  have loop : ∀ j i h1 L6 L7, i + j = T 1 → FB h h1 1512 → WP G (d + 5) mX7_soon (pI K) 31 [some (.ref 89), some (.int (nI c)), some (.int (nI m)), some (.int (sG (snU T c i))), some (.int (sD (snU T c i))), some (.int (nI i)), L6, L7] [] h1 := by
    intro j
    induction j with
    | zero =>
      intro i h1 L6 L7 hij hf1
      have kk := k h1 hf1.sr
      rw [show T 1 = i by omega] at kk
      have e3 : h1 90 1 = nI (T 1) := by rw [hf1.2 1 (by omega)]; exact e1
      refine wp_iload (pc := 31) (i := 5) dX7_soon_31 rfl ?_
      refine wp_aload_n (pc := 33) (i := 0) dX7_soon_33 rfl rfl ?_
      refine wp_gfr (pc := 34) fk_X7_7 dX7_soon_34 rfl rfl (by decide) ?_
      refine wp_iconst (pc := 37) (v := nI 1) dX7_soon_37 rfl ?_
      first | (with_reducible show WP _ _ _ _ _ _ (Value.int (nI _) :: _) _; refine wp_ialdN (pc := 38) dX7_soon_38 rfl (by omega) (by first | with_reducible assumption | with_reducible exact hs_same _ _ _ _ | rfl) ?_) | refine wp_iald (pc := 38) dX7_soon_38 rfl (by assumption) rfl ?_
      first | (with_reducible show WP _ _ _ _ _ _ (Value.int (nI _) :: Value.int (nI _) :: _) _; refine wp_icmp_geN (pc := 39) (tgt := 129) dX7_soon_39 (by decide) (by omega) (by omega) (fun c39 => ?_) (fun c39 => ?_)) | refine wp_icmp_ge (pc := 39) (tgt := 129) dX7_soon_39 (by decide) (fun c39 => ?_) (fun c39 => ?_)
      refine wp_iload_n (pc := 129) (i := 2) dX7_soon_129 rfl rfl ?_
      first | (with_reducible show WP _ _ _ _ _ _ (Value.int (bI _) :: _) _; refine wp_if_neB (pc := 130) (tgt := 137) dX7_soon_130 (by decide) (fun c130 => ?_) (fun c130 => ?_)) | (with_reducible show WP _ _ _ _ _ _ (Value.int (nI _) :: _) _; refine wp_if_neN (pc := 130) (tgt := 137) dX7_soon_130 (by decide) (by omega) (fun c130 => ?_) (fun c130 => ?_)) | refine wp_if_ne (pc := 130) (tgt := 137) dX7_soon_130 (by decide) (fun c130 => ?_) (fun c130 => ?_)
      refine wp_iload (pc := 137) (i := 4) dX7_soon_137 rfl ?_
      refine wp_iret (pc := 139) dX7_soon_139 rfl ?_
      rotate_left
      refine wp_iload_n (pc := 133) (i := 3) dX7_soon_133 rfl rfl ?_
      refine wp_goto (pc := 134) (tgt := 139) dX7_soon_134 (by decide) ?_
      refine wp_iret (pc := 139) dX7_soon_139 rfl ?_
      rotate_left
      rotate_left
      · rw [if_neg (fun q => c130 (em.mp q))] at kk; exact kk
      · rw [if_pos (em.mpr c130)] at kk; exact kk
      · exact absurd hij (by omega)
    | succ j ih =>
      intro i h1 L6 L7 hij hf1
      have e3 : h1 90 1 = nI (T 1) := by rw [hf1.2 1 (by omega)]; exact e1
      have hgi : i < T 1 := by omega
      have hR1 : RW h1 0 T := hR.fb hf1 (by omega)
      obtain ⟨a1, a2, a3, a4⟩ := okp_fir hO hgi hc
      refine wp_iload (pc := 31) (i := 5) dX7_soon_31 rfl ?_
      refine wp_aload_n (pc := 33) (i := 0) dX7_soon_33 rfl rfl ?_
      refine wp_gfr (pc := 34) fk_X7_7 dX7_soon_34 rfl rfl (by decide) ?_
      refine wp_iconst (pc := 37) (v := nI 1) dX7_soon_37 rfl ?_
      first | (with_reducible show WP _ _ _ _ _ _ (Value.int (nI _) :: _) _; refine wp_ialdN (pc := 38) dX7_soon_38 rfl (by omega) (by first | with_reducible assumption | with_reducible exact hs_same _ _ _ _ | rfl) ?_) | refine wp_iald (pc := 38) dX7_soon_38 rfl (by assumption) rfl ?_
      first | (with_reducible show WP _ _ _ _ _ _ (Value.int (nI _) :: Value.int (nI _) :: _) _; refine wp_icmp_geN (pc := 39) (tgt := 129) dX7_soon_39 (by decide) (by omega) (by omega) (fun c39 => ?_) (fun c39 => ?_)) | refine wp_icmp_ge (pc := 39) (tgt := 129) dX7_soon_39 (by decide) (fun c39 => ?_) (fun c39 => ?_)
      rotate_left
      refine wp_aload_n (pc := 42) (i := 0) dX7_soon_42 rfl rfl ?_
      refine wp_iconst (pc := 43) (v := nI 0) dX7_soon_43 rfl ?_
      refine wp_sipush (pc := 44) (v := nI 1512) dX7_soon_44 rfl ?_
      refine wp_cV2v (pc := 47) lk_X7_132 dX7_soon_47 rfl rfl rfl (sp7_copyTown hR1 (by omega) (by omega) (by omega) (fun h2 hR2 hf2 => ?_))
      rotate_left
      · exact absurd hij (by omega)
      have hR3 := RWup (v := c) hR2 (show 32 + i < 56 by omega)
      rw [← Nat.add_assoc] at hR3
      have hf3 : FB h1 (hs h2 90 (1544 + i) (nI c)) 1512 := hf2.hs (by omega) (by omega)
      have p3 : hs h2 90 (1544 + i) (nI c) 90 3 = nI (up T (32 + i) c 3) := by rw [hs_ix (by omega), hf2.2 3 (by omega), up_ne (by omega)]; exact hR1 3 (by omega)
      refine wp_aload_n (pc := 50) (i := 0) dX7_soon_50 rfl rfl ?_
      refine wp_gfr (pc := 51) fk_X7_7 dX7_soon_51 rfl rfl (by decide) ?_
      refine wp_sipush (pc := 54) (v := nI 1544) dX7_soon_54 rfl ?_
      refine wp_iload (pc := 57) (i := 5) dX7_soon_57 rfl ?_
      first | (with_reducible show WP _ _ _ _ _ _ (Value.int (nI _) :: Value.int (nI _) :: _) _; refine wp_iaddN (pc := 59) dX7_soon_59 ?_) | refine wp_iadd (pc := 59) dX7_soon_59 ?_
      refine wp_iload_n (pc := 60) (i := 1) dX7_soon_60 rfl rfl ?_
      first | (with_reducible show WP _ _ _ _ _ _ (_ :: Value.int (nI _) :: _) _; refine wp_iastN (pc := 61) dX7_soon_61 rfl (by omega) ?_) | refine wp_iast (pc := 61) dX7_soon_61 rfl (by assumption) rfl ?_
      refine wp_aload_n (pc := 62) (i := 0) dX7_soon_62 rfl rfl ?_
      refine wp_iload_n (pc := 63) (i := 1) dX7_soon_63 rfl rfl ?_
      refine wp_cV1i (pc := 64) lk_X7_200 dX7_soon_64 rfl rfl rfl (sp7_wholeTried hR3 p3 a1 (by omega) (by omega) (by omega) (fun h4 hf4 => ?_))
      rotate_left
      have fin := fun L6 L7 => ih (i + 1) h4 L6 L7 (by omega) ((hf1.tr hf3).tr hf4)
      unfold snU at fin
      cases hw : whl (up T (32 + i) c) c 0 61 with
      | none =>
        rw [hw] at fin
        rw [show oI none = kNONE from rfl]
        refine wp_istore (pc := 67) (i := 6) dX7_soon_67 rfl (by decide) rfl ?_
        dsimp only [List.set_cons_zero, List.set_cons_succ]
        refine wp_iload (pc := 69) (i := 6) dX7_soon_69 rfl ?_
        refine wp_ldc (pc := 71) kn_X7_144 dX7_soon_71 ?_
        first | (with_reducible show WP _ _ _ _ _ _ (Value.int (nI _) :: Value.int (nI _) :: _) _; refine wp_icmp_eqN (pc := 73) (tgt := 94) dX7_soon_73 (by decide) (by omega) (by omega) (fun c73 => ?_) (fun c73 => ?_)) | refine wp_icmp_eq (pc := 73) (tgt := 94) dX7_soon_73 (by decide) (fun c73 => ?_) (fun c73 => ?_)
        refine wp_iconst (pc := 94) (v := nI 0) dX7_soon_94 rfl ?_
        refine wp_istore (pc := 95) (i := 7) dX7_soon_95 rfl (by decide) rfl ?_
        dsimp only [List.set_cons_zero, List.set_cons_succ]
        refine wp_iload (pc := 97) (i := 7) dX7_soon_97 rfl ?_
        first | (with_reducible show WP _ _ _ _ _ _ (Value.int (bI _) :: _) _; refine wp_if_eqB (pc := 99) (tgt := 107) dX7_soon_99 (by decide) (fun c99 => ?_) (fun c99 => ?_)) | (with_reducible show WP _ _ _ _ _ _ (Value.int (nI _) :: _) _; refine wp_if_eqN (pc := 99) (tgt := 107) dX7_soon_99 (by decide) (by omega) (fun c99 => ?_) (fun c99 => ?_)) | refine wp_if_eq (pc := 99) (tgt := 107) dX7_soon_99 (by decide) (fun c99 => ?_) (fun c99 => ?_)
        refine wp_iload_n (pc := 107) (i := 3) dX7_soon_107 rfl rfl ?_
        refine wp_istore_n (pc := 108) (i := 3) dX7_soon_108 rfl rfl (by decide) rfl ?_
        dsimp only [List.set_cons_zero, List.set_cons_succ]
        refine wp_iload (pc := 109) (i := 7) dX7_soon_109 rfl ?_
        first | (with_reducible show WP _ _ _ _ _ _ (Value.int (bI _) :: _) _; refine wp_if_eqB (pc := 111) (tgt := 119) dX7_soon_111 (by decide) (fun c111 => ?_) (fun c111 => ?_)) | (with_reducible show WP _ _ _ _ _ _ (Value.int (nI _) :: _) _; refine wp_if_eqN (pc := 111) (tgt := 119) dX7_soon_111 (by decide) (by omega) (fun c111 => ?_) (fun c111 => ?_)) | refine wp_if_eq (pc := 111) (tgt := 119) dX7_soon_111 (by decide) (fun c111 => ?_) (fun c111 => ?_)
        refine wp_iload (pc := 119) (i := 4) dX7_soon_119 rfl ?_
        refine wp_istore (pc := 121) (i := 4) dX7_soon_121 rfl (by decide) rfl ?_
        dsimp only [List.set_cons_zero, List.set_cons_succ]
        first | refine wp_iincN (pc := 123) (i := 5) (n := 1) dX7_soon_123 rfl rfl (by decide) rfl ?_ | refine wp_iinc (pc := 123) (i := 5) dX7_soon_123 rfl rfl rfl (by decide) rfl ?_
        dsimp only [List.set_cons_zero, List.set_cons_succ]
        refine wp_goto (pc := 126) (tgt := 31) dX7_soon_126 (by decide) ?_
        rotate_left
        rotate_left
        rotate_left
        rotate_left
        all_goals first | exact absurd rfl c73 | exact absurd c99 (by decide) | exact absurd c111 (by decide) | exact fin _ _ | exact absurd rfl c99 | exact absurd rfl c111
      | some v =>
        have hv := whl_lt _ _ _ _ _ hw
        rw [hw] at fin
        rw [show oI (some v) = nI v from rfl]
        cases hs : snU T c i with
        | none =>
          rw [hs] at fin
          rw [show sD none = kNONE from rfl]
          refine wp_istore (pc := 67) (i := 6) dX7_soon_67 rfl (by decide) rfl ?_
          dsimp only [List.set_cons_zero, List.set_cons_succ]
          refine wp_iload (pc := 69) (i := 6) dX7_soon_69 rfl ?_
          refine wp_ldc (pc := 71) kn_X7_144 dX7_soon_71 ?_
          first | (with_reducible show WP _ _ _ _ _ _ (Value.int (nI _) :: Value.int (nI _) :: _) _; refine wp_icmp_eqN (pc := 73) (tgt := 94) dX7_soon_73 (by decide) (by omega) (by omega) (fun c73 => ?_) (fun c73 => ?_)) | refine wp_icmp_eq (pc := 73) (tgt := 94) dX7_soon_73 (by decide) (fun c73 => ?_) (fun c73 => ?_)
          refine wp_iconst (pc := 94) (v := nI 0) dX7_soon_94 rfl ?_
          refine wp_istore (pc := 95) (i := 7) dX7_soon_95 rfl (by decide) rfl ?_
          dsimp only [List.set_cons_zero, List.set_cons_succ]
          refine wp_iload (pc := 97) (i := 7) dX7_soon_97 rfl ?_
          first | (with_reducible show WP _ _ _ _ _ _ (Value.int (bI _) :: _) _; refine wp_if_eqB (pc := 99) (tgt := 107) dX7_soon_99 (by decide) (fun c99 => ?_) (fun c99 => ?_)) | (with_reducible show WP _ _ _ _ _ _ (Value.int (nI _) :: _) _; refine wp_if_eqN (pc := 99) (tgt := 107) dX7_soon_99 (by decide) (by omega) (fun c99 => ?_) (fun c99 => ?_)) | refine wp_if_eq (pc := 99) (tgt := 107) dX7_soon_99 (by decide) (fun c99 => ?_) (fun c99 => ?_)
          refine wp_iload_n (pc := 107) (i := 3) dX7_soon_107 rfl rfl ?_
          refine wp_istore_n (pc := 108) (i := 3) dX7_soon_108 rfl rfl (by decide) rfl ?_
          dsimp only [List.set_cons_zero, List.set_cons_succ]
          refine wp_iload (pc := 109) (i := 7) dX7_soon_109 rfl ?_
          first | (with_reducible show WP _ _ _ _ _ _ (Value.int (bI _) :: _) _; refine wp_if_eqB (pc := 111) (tgt := 119) dX7_soon_111 (by decide) (fun c111 => ?_) (fun c111 => ?_)) | (with_reducible show WP _ _ _ _ _ _ (Value.int (nI _) :: _) _; refine wp_if_eqN (pc := 111) (tgt := 119) dX7_soon_111 (by decide) (by omega) (fun c111 => ?_) (fun c111 => ?_)) | refine wp_if_eq (pc := 111) (tgt := 119) dX7_soon_111 (by decide) (fun c111 => ?_) (fun c111 => ?_)
          refine wp_iload (pc := 119) (i := 4) dX7_soon_119 rfl ?_
          refine wp_istore (pc := 121) (i := 4) dX7_soon_121 rfl (by decide) rfl ?_
          dsimp only [List.set_cons_zero, List.set_cons_succ]
          first | refine wp_iincN (pc := 123) (i := 5) (n := 1) dX7_soon_123 rfl rfl (by decide) rfl ?_ | refine wp_iinc (pc := 123) (i := 5) dX7_soon_123 rfl rfl rfl (by decide) rfl ?_
          dsimp only [List.set_cons_zero, List.set_cons_succ]
          refine wp_goto (pc := 126) (tgt := 31) dX7_soon_126 (by decide) ?_
          rotate_left
          refine wp_iload (pc := 114) (i := 6) dX7_soon_114 rfl ?_
          refine wp_goto (pc := 116) (tgt := 121) dX7_soon_116 (by decide) ?_
          refine wp_istore (pc := 121) (i := 4) dX7_soon_121 rfl (by decide) rfl ?_
          dsimp only [List.set_cons_zero, List.set_cons_succ]
          first | refine wp_iincN (pc := 123) (i := 5) (n := 1) dX7_soon_123 rfl rfl (by decide) rfl ?_ | refine wp_iinc (pc := 123) (i := 5) dX7_soon_123 rfl rfl rfl (by decide) rfl ?_
          dsimp only [List.set_cons_zero, List.set_cons_succ]
          refine wp_goto (pc := 126) (tgt := 31) dX7_soon_126 (by decide) ?_
          rotate_left
          refine wp_iload (pc := 102) (i := 5) dX7_soon_102 rfl ?_
          refine wp_goto (pc := 104) (tgt := 108) dX7_soon_104 (by decide) ?_
          refine wp_istore_n (pc := 108) (i := 3) dX7_soon_108 rfl rfl (by decide) rfl ?_
          dsimp only [List.set_cons_zero, List.set_cons_succ]
          refine wp_iload (pc := 109) (i := 7) dX7_soon_109 rfl ?_
          first | (with_reducible show WP _ _ _ _ _ _ (Value.int (bI _) :: _) _; refine wp_if_eqB (pc := 111) (tgt := 119) dX7_soon_111 (by decide) (fun c111 => ?_) (fun c111 => ?_)) | (with_reducible show WP _ _ _ _ _ _ (Value.int (nI _) :: _) _; refine wp_if_eqN (pc := 111) (tgt := 119) dX7_soon_111 (by decide) (by omega) (fun c111 => ?_) (fun c111 => ?_)) | refine wp_if_eq (pc := 111) (tgt := 119) dX7_soon_111 (by decide) (fun c111 => ?_) (fun c111 => ?_)
          refine wp_iload (pc := 119) (i := 4) dX7_soon_119 rfl ?_
          refine wp_istore (pc := 121) (i := 4) dX7_soon_121 rfl (by decide) rfl ?_
          dsimp only [List.set_cons_zero, List.set_cons_succ]
          first | refine wp_iincN (pc := 123) (i := 5) (n := 1) dX7_soon_123 rfl rfl (by decide) rfl ?_ | refine wp_iinc (pc := 123) (i := 5) dX7_soon_123 rfl rfl rfl (by decide) rfl ?_
          dsimp only [List.set_cons_zero, List.set_cons_succ]
          refine wp_goto (pc := 126) (tgt := 31) dX7_soon_126 (by decide) ?_
          rotate_left
          refine wp_iload (pc := 114) (i := 6) dX7_soon_114 rfl ?_
          refine wp_goto (pc := 116) (tgt := 121) dX7_soon_116 (by decide) ?_
          refine wp_istore (pc := 121) (i := 4) dX7_soon_121 rfl (by decide) rfl ?_
          dsimp only [List.set_cons_zero, List.set_cons_succ]
          first | refine wp_iincN (pc := 123) (i := 5) (n := 1) dX7_soon_123 rfl rfl (by decide) rfl ?_ | refine wp_iinc (pc := 123) (i := 5) dX7_soon_123 rfl rfl rfl (by decide) rfl ?_
          dsimp only [List.set_cons_zero, List.set_cons_succ]
          refine wp_goto (pc := 126) (tgt := 31) dX7_soon_126 (by decide) ?_
          rotate_left
          refine wp_iload (pc := 76) (i := 4) dX7_soon_76 rfl ?_
          refine wp_ldc (pc := 78) kn_X7_144 dX7_soon_78 ?_
          first | (with_reducible show WP _ _ _ _ _ _ (Value.int (nI _) :: Value.int (nI _) :: _) _; refine wp_icmp_eqN (pc := 80) (tgt := 90) dX7_soon_80 (by decide) (by omega) (by omega) (fun c80 => ?_) (fun c80 => ?_)) | refine wp_icmp_eq (pc := 80) (tgt := 90) dX7_soon_80 (by decide) (fun c80 => ?_) (fun c80 => ?_)
          refine wp_iconst (pc := 90) (v := nI 1) dX7_soon_90 rfl ?_
          refine wp_goto (pc := 91) (tgt := 95) dX7_soon_91 (by decide) ?_
          refine wp_istore (pc := 95) (i := 7) dX7_soon_95 rfl (by decide) rfl ?_
          dsimp only [List.set_cons_zero, List.set_cons_succ]
          refine wp_iload (pc := 97) (i := 7) dX7_soon_97 rfl ?_
          first | (with_reducible show WP _ _ _ _ _ _ (Value.int (bI _) :: _) _; refine wp_if_eqB (pc := 99) (tgt := 107) dX7_soon_99 (by decide) (fun c99 => ?_) (fun c99 => ?_)) | (with_reducible show WP _ _ _ _ _ _ (Value.int (nI _) :: _) _; refine wp_if_eqN (pc := 99) (tgt := 107) dX7_soon_99 (by decide) (by omega) (fun c99 => ?_) (fun c99 => ?_)) | refine wp_if_eq (pc := 99) (tgt := 107) dX7_soon_99 (by decide) (fun c99 => ?_) (fun c99 => ?_)
          refine wp_iload_n (pc := 107) (i := 3) dX7_soon_107 rfl rfl ?_
          refine wp_istore_n (pc := 108) (i := 3) dX7_soon_108 rfl rfl (by decide) rfl ?_
          dsimp only [List.set_cons_zero, List.set_cons_succ]
          refine wp_iload (pc := 109) (i := 7) dX7_soon_109 rfl ?_
          first | (with_reducible show WP _ _ _ _ _ _ (Value.int (bI _) :: _) _; refine wp_if_eqB (pc := 111) (tgt := 119) dX7_soon_111 (by decide) (fun c111 => ?_) (fun c111 => ?_)) | (with_reducible show WP _ _ _ _ _ _ (Value.int (nI _) :: _) _; refine wp_if_eqN (pc := 111) (tgt := 119) dX7_soon_111 (by decide) (by omega) (fun c111 => ?_) (fun c111 => ?_)) | refine wp_if_eq (pc := 111) (tgt := 119) dX7_soon_111 (by decide) (fun c111 => ?_) (fun c111 => ?_)
          refine wp_iload (pc := 119) (i := 4) dX7_soon_119 rfl ?_
          refine wp_istore (pc := 121) (i := 4) dX7_soon_121 rfl (by decide) rfl ?_
          dsimp only [List.set_cons_zero, List.set_cons_succ]
          first | refine wp_iincN (pc := 123) (i := 5) (n := 1) dX7_soon_123 rfl rfl (by decide) rfl ?_ | refine wp_iinc (pc := 123) (i := 5) dX7_soon_123 rfl rfl rfl (by decide) rfl ?_
          dsimp only [List.set_cons_zero, List.set_cons_succ]
          refine wp_goto (pc := 126) (tgt := 31) dX7_soon_126 (by decide) ?_
          rotate_left
          refine wp_iload (pc := 114) (i := 6) dX7_soon_114 rfl ?_
          refine wp_goto (pc := 116) (tgt := 121) dX7_soon_116 (by decide) ?_
          refine wp_istore (pc := 121) (i := 4) dX7_soon_121 rfl (by decide) rfl ?_
          dsimp only [List.set_cons_zero, List.set_cons_succ]
          first | refine wp_iincN (pc := 123) (i := 5) (n := 1) dX7_soon_123 rfl rfl (by decide) rfl ?_ | refine wp_iinc (pc := 123) (i := 5) dX7_soon_123 rfl rfl rfl (by decide) rfl ?_
          dsimp only [List.set_cons_zero, List.set_cons_succ]
          refine wp_goto (pc := 126) (tgt := 31) dX7_soon_126 (by decide) ?_
          rotate_left
          refine wp_iload (pc := 102) (i := 5) dX7_soon_102 rfl ?_
          refine wp_goto (pc := 104) (tgt := 108) dX7_soon_104 (by decide) ?_
          refine wp_istore_n (pc := 108) (i := 3) dX7_soon_108 rfl rfl (by decide) rfl ?_
          dsimp only [List.set_cons_zero, List.set_cons_succ]
          refine wp_iload (pc := 109) (i := 7) dX7_soon_109 rfl ?_
          first | (with_reducible show WP _ _ _ _ _ _ (Value.int (bI _) :: _) _; refine wp_if_eqB (pc := 111) (tgt := 119) dX7_soon_111 (by decide) (fun c111 => ?_) (fun c111 => ?_)) | (with_reducible show WP _ _ _ _ _ _ (Value.int (nI _) :: _) _; refine wp_if_eqN (pc := 111) (tgt := 119) dX7_soon_111 (by decide) (by omega) (fun c111 => ?_) (fun c111 => ?_)) | refine wp_if_eq (pc := 111) (tgt := 119) dX7_soon_111 (by decide) (fun c111 => ?_) (fun c111 => ?_)
          refine wp_iload (pc := 119) (i := 4) dX7_soon_119 rfl ?_
          refine wp_istore (pc := 121) (i := 4) dX7_soon_121 rfl (by decide) rfl ?_
          dsimp only [List.set_cons_zero, List.set_cons_succ]
          first | refine wp_iincN (pc := 123) (i := 5) (n := 1) dX7_soon_123 rfl rfl (by decide) rfl ?_ | refine wp_iinc (pc := 123) (i := 5) dX7_soon_123 rfl rfl rfl (by decide) rfl ?_
          dsimp only [List.set_cons_zero, List.set_cons_succ]
          refine wp_goto (pc := 126) (tgt := 31) dX7_soon_126 (by decide) ?_
          rotate_left
          refine wp_iload (pc := 114) (i := 6) dX7_soon_114 rfl ?_
          refine wp_goto (pc := 116) (tgt := 121) dX7_soon_116 (by decide) ?_
          refine wp_istore (pc := 121) (i := 4) dX7_soon_121 rfl (by decide) rfl ?_
          dsimp only [List.set_cons_zero, List.set_cons_succ]
          first | refine wp_iincN (pc := 123) (i := 5) (n := 1) dX7_soon_123 rfl rfl (by decide) rfl ?_ | refine wp_iinc (pc := 123) (i := 5) dX7_soon_123 rfl rfl rfl (by decide) rfl ?_
          dsimp only [List.set_cons_zero, List.set_cons_succ]
          refine wp_goto (pc := 126) (tgt := 31) dX7_soon_126 (by decide) ?_
          rotate_left
          refine wp_iload (pc := 83) (i := 6) dX7_soon_83 rfl ?_
          refine wp_iload (pc := 85) (i := 4) dX7_soon_85 rfl ?_
          first | (with_reducible show WP _ _ _ _ _ _ (Value.int (nI _) :: Value.int (nI _) :: _) _; refine wp_icmp_geN (pc := 87) (tgt := 94) dX7_soon_87 (by decide) (by omega) (by omega) (fun c87 => ?_) (fun c87 => ?_)) | refine wp_icmp_ge (pc := 87) (tgt := 94) dX7_soon_87 (by decide) (fun c87 => ?_) (fun c87 => ?_)
          refine wp_iconst (pc := 94) (v := nI 0) dX7_soon_94 rfl ?_
          refine wp_istore (pc := 95) (i := 7) dX7_soon_95 rfl (by decide) rfl ?_
          dsimp only [List.set_cons_zero, List.set_cons_succ]
          refine wp_iload (pc := 97) (i := 7) dX7_soon_97 rfl ?_
          first | (with_reducible show WP _ _ _ _ _ _ (Value.int (bI _) :: _) _; refine wp_if_eqB (pc := 99) (tgt := 107) dX7_soon_99 (by decide) (fun c99 => ?_) (fun c99 => ?_)) | (with_reducible show WP _ _ _ _ _ _ (Value.int (nI _) :: _) _; refine wp_if_eqN (pc := 99) (tgt := 107) dX7_soon_99 (by decide) (by omega) (fun c99 => ?_) (fun c99 => ?_)) | refine wp_if_eq (pc := 99) (tgt := 107) dX7_soon_99 (by decide) (fun c99 => ?_) (fun c99 => ?_)
          refine wp_iload_n (pc := 107) (i := 3) dX7_soon_107 rfl rfl ?_
          refine wp_istore_n (pc := 108) (i := 3) dX7_soon_108 rfl rfl (by decide) rfl ?_
          dsimp only [List.set_cons_zero, List.set_cons_succ]
          refine wp_iload (pc := 109) (i := 7) dX7_soon_109 rfl ?_
          first | (with_reducible show WP _ _ _ _ _ _ (Value.int (bI _) :: _) _; refine wp_if_eqB (pc := 111) (tgt := 119) dX7_soon_111 (by decide) (fun c111 => ?_) (fun c111 => ?_)) | (with_reducible show WP _ _ _ _ _ _ (Value.int (nI _) :: _) _; refine wp_if_eqN (pc := 111) (tgt := 119) dX7_soon_111 (by decide) (by omega) (fun c111 => ?_) (fun c111 => ?_)) | refine wp_if_eq (pc := 111) (tgt := 119) dX7_soon_111 (by decide) (fun c111 => ?_) (fun c111 => ?_)
          refine wp_iload (pc := 119) (i := 4) dX7_soon_119 rfl ?_
          refine wp_istore (pc := 121) (i := 4) dX7_soon_121 rfl (by decide) rfl ?_
          dsimp only [List.set_cons_zero, List.set_cons_succ]
          first | refine wp_iincN (pc := 123) (i := 5) (n := 1) dX7_soon_123 rfl rfl (by decide) rfl ?_ | refine wp_iinc (pc := 123) (i := 5) dX7_soon_123 rfl rfl rfl (by decide) rfl ?_
          dsimp only [List.set_cons_zero, List.set_cons_succ]
          refine wp_goto (pc := 126) (tgt := 31) dX7_soon_126 (by decide) ?_
          rotate_left
          refine wp_iload (pc := 114) (i := 6) dX7_soon_114 rfl ?_
          refine wp_goto (pc := 116) (tgt := 121) dX7_soon_116 (by decide) ?_
          refine wp_istore (pc := 121) (i := 4) dX7_soon_121 rfl (by decide) rfl ?_
          dsimp only [List.set_cons_zero, List.set_cons_succ]
          first | refine wp_iincN (pc := 123) (i := 5) (n := 1) dX7_soon_123 rfl rfl (by decide) rfl ?_ | refine wp_iinc (pc := 123) (i := 5) dX7_soon_123 rfl rfl rfl (by decide) rfl ?_
          dsimp only [List.set_cons_zero, List.set_cons_succ]
          refine wp_goto (pc := 126) (tgt := 31) dX7_soon_126 (by decide) ?_
          rotate_left
          refine wp_iload (pc := 102) (i := 5) dX7_soon_102 rfl ?_
          refine wp_goto (pc := 104) (tgt := 108) dX7_soon_104 (by decide) ?_
          refine wp_istore_n (pc := 108) (i := 3) dX7_soon_108 rfl rfl (by decide) rfl ?_
          dsimp only [List.set_cons_zero, List.set_cons_succ]
          refine wp_iload (pc := 109) (i := 7) dX7_soon_109 rfl ?_
          first | (with_reducible show WP _ _ _ _ _ _ (Value.int (bI _) :: _) _; refine wp_if_eqB (pc := 111) (tgt := 119) dX7_soon_111 (by decide) (fun c111 => ?_) (fun c111 => ?_)) | (with_reducible show WP _ _ _ _ _ _ (Value.int (nI _) :: _) _; refine wp_if_eqN (pc := 111) (tgt := 119) dX7_soon_111 (by decide) (by omega) (fun c111 => ?_) (fun c111 => ?_)) | refine wp_if_eq (pc := 111) (tgt := 119) dX7_soon_111 (by decide) (fun c111 => ?_) (fun c111 => ?_)
          refine wp_iload (pc := 119) (i := 4) dX7_soon_119 rfl ?_
          refine wp_istore (pc := 121) (i := 4) dX7_soon_121 rfl (by decide) rfl ?_
          dsimp only [List.set_cons_zero, List.set_cons_succ]
          first | refine wp_iincN (pc := 123) (i := 5) (n := 1) dX7_soon_123 rfl rfl (by decide) rfl ?_ | refine wp_iinc (pc := 123) (i := 5) dX7_soon_123 rfl rfl rfl (by decide) rfl ?_
          dsimp only [List.set_cons_zero, List.set_cons_succ]
          refine wp_goto (pc := 126) (tgt := 31) dX7_soon_126 (by decide) ?_
          rotate_left
          refine wp_iload (pc := 114) (i := 6) dX7_soon_114 rfl ?_
          refine wp_goto (pc := 116) (tgt := 121) dX7_soon_116 (by decide) ?_
          refine wp_istore (pc := 121) (i := 4) dX7_soon_121 rfl (by decide) rfl ?_
          dsimp only [List.set_cons_zero, List.set_cons_succ]
          first | refine wp_iincN (pc := 123) (i := 5) (n := 1) dX7_soon_123 rfl rfl (by decide) rfl ?_ | refine wp_iinc (pc := 123) (i := 5) dX7_soon_123 rfl rfl rfl (by decide) rfl ?_
          dsimp only [List.set_cons_zero, List.set_cons_succ]
          refine wp_goto (pc := 126) (tgt := 31) dX7_soon_126 (by decide) ?_
          rotate_left
          refine wp_iconst (pc := 90) (v := nI 1) dX7_soon_90 rfl ?_
          refine wp_goto (pc := 91) (tgt := 95) dX7_soon_91 (by decide) ?_
          refine wp_istore (pc := 95) (i := 7) dX7_soon_95 rfl (by decide) rfl ?_
          dsimp only [List.set_cons_zero, List.set_cons_succ]
          refine wp_iload (pc := 97) (i := 7) dX7_soon_97 rfl ?_
          first | (with_reducible show WP _ _ _ _ _ _ (Value.int (bI _) :: _) _; refine wp_if_eqB (pc := 99) (tgt := 107) dX7_soon_99 (by decide) (fun c99 => ?_) (fun c99 => ?_)) | (with_reducible show WP _ _ _ _ _ _ (Value.int (nI _) :: _) _; refine wp_if_eqN (pc := 99) (tgt := 107) dX7_soon_99 (by decide) (by omega) (fun c99 => ?_) (fun c99 => ?_)) | refine wp_if_eq (pc := 99) (tgt := 107) dX7_soon_99 (by decide) (fun c99 => ?_) (fun c99 => ?_)
          refine wp_iload_n (pc := 107) (i := 3) dX7_soon_107 rfl rfl ?_
          refine wp_istore_n (pc := 108) (i := 3) dX7_soon_108 rfl rfl (by decide) rfl ?_
          dsimp only [List.set_cons_zero, List.set_cons_succ]
          refine wp_iload (pc := 109) (i := 7) dX7_soon_109 rfl ?_
          first | (with_reducible show WP _ _ _ _ _ _ (Value.int (bI _) :: _) _; refine wp_if_eqB (pc := 111) (tgt := 119) dX7_soon_111 (by decide) (fun c111 => ?_) (fun c111 => ?_)) | (with_reducible show WP _ _ _ _ _ _ (Value.int (nI _) :: _) _; refine wp_if_eqN (pc := 111) (tgt := 119) dX7_soon_111 (by decide) (by omega) (fun c111 => ?_) (fun c111 => ?_)) | refine wp_if_eq (pc := 111) (tgt := 119) dX7_soon_111 (by decide) (fun c111 => ?_) (fun c111 => ?_)
          refine wp_iload (pc := 119) (i := 4) dX7_soon_119 rfl ?_
          refine wp_istore (pc := 121) (i := 4) dX7_soon_121 rfl (by decide) rfl ?_
          dsimp only [List.set_cons_zero, List.set_cons_succ]
          first | refine wp_iincN (pc := 123) (i := 5) (n := 1) dX7_soon_123 rfl rfl (by decide) rfl ?_ | refine wp_iinc (pc := 123) (i := 5) dX7_soon_123 rfl rfl rfl (by decide) rfl ?_
          dsimp only [List.set_cons_zero, List.set_cons_succ]
          refine wp_goto (pc := 126) (tgt := 31) dX7_soon_126 (by decide) ?_
          rotate_left
          refine wp_iload (pc := 114) (i := 6) dX7_soon_114 rfl ?_
          refine wp_goto (pc := 116) (tgt := 121) dX7_soon_116 (by decide) ?_
          refine wp_istore (pc := 121) (i := 4) dX7_soon_121 rfl (by decide) rfl ?_
          dsimp only [List.set_cons_zero, List.set_cons_succ]
          first | refine wp_iincN (pc := 123) (i := 5) (n := 1) dX7_soon_123 rfl rfl (by decide) rfl ?_ | refine wp_iinc (pc := 123) (i := 5) dX7_soon_123 rfl rfl rfl (by decide) rfl ?_
          dsimp only [List.set_cons_zero, List.set_cons_succ]
          refine wp_goto (pc := 126) (tgt := 31) dX7_soon_126 (by decide) ?_
          rotate_left
          refine wp_iload (pc := 102) (i := 5) dX7_soon_102 rfl ?_
          refine wp_goto (pc := 104) (tgt := 108) dX7_soon_104 (by decide) ?_
          refine wp_istore_n (pc := 108) (i := 3) dX7_soon_108 rfl rfl (by decide) rfl ?_
          dsimp only [List.set_cons_zero, List.set_cons_succ]
          refine wp_iload (pc := 109) (i := 7) dX7_soon_109 rfl ?_
          first | (with_reducible show WP _ _ _ _ _ _ (Value.int (bI _) :: _) _; refine wp_if_eqB (pc := 111) (tgt := 119) dX7_soon_111 (by decide) (fun c111 => ?_) (fun c111 => ?_)) | (with_reducible show WP _ _ _ _ _ _ (Value.int (nI _) :: _) _; refine wp_if_eqN (pc := 111) (tgt := 119) dX7_soon_111 (by decide) (by omega) (fun c111 => ?_) (fun c111 => ?_)) | refine wp_if_eq (pc := 111) (tgt := 119) dX7_soon_111 (by decide) (fun c111 => ?_) (fun c111 => ?_)
          refine wp_iload (pc := 119) (i := 4) dX7_soon_119 rfl ?_
          refine wp_istore (pc := 121) (i := 4) dX7_soon_121 rfl (by decide) rfl ?_
          dsimp only [List.set_cons_zero, List.set_cons_succ]
          first | refine wp_iincN (pc := 123) (i := 5) (n := 1) dX7_soon_123 rfl rfl (by decide) rfl ?_ | refine wp_iinc (pc := 123) (i := 5) dX7_soon_123 rfl rfl rfl (by decide) rfl ?_
          dsimp only [List.set_cons_zero, List.set_cons_succ]
          refine wp_goto (pc := 126) (tgt := 31) dX7_soon_126 (by decide) ?_
          rotate_left
          refine wp_iload (pc := 114) (i := 6) dX7_soon_114 rfl ?_
          refine wp_goto (pc := 116) (tgt := 121) dX7_soon_116 (by decide) ?_
          refine wp_istore (pc := 121) (i := 4) dX7_soon_121 rfl (by decide) rfl ?_
          dsimp only [List.set_cons_zero, List.set_cons_succ]
          first | refine wp_iincN (pc := 123) (i := 5) (n := 1) dX7_soon_123 rfl rfl (by decide) rfl ?_ | refine wp_iinc (pc := 123) (i := 5) dX7_soon_123 rfl rfl rfl (by decide) rfl ?_
          dsimp only [List.set_cons_zero, List.set_cons_succ]
          refine wp_goto (pc := 126) (tgt := 31) dX7_soon_126 (by decide) ?_
          rotate_left
          all_goals first | exact absurd c73 (nI_none (by omega)) | exact absurd rfl c80 | exact absurd c99 (by decide) | exact absurd c111 (by decide) | exact fin _ _
        | some p =>
          obtain ⟨a, b⟩ := p
          have hab := snU_lt _ _ _ hs
          rw [hs] at fin
          rw [show sD (some (a, b)) = nI b from rfl, show sG (some (a, b)) = nI a from rfl]
          dsimp only at fin
          refine wp_istore (pc := 67) (i := 6) dX7_soon_67 rfl (by decide) rfl ?_
          dsimp only [List.set_cons_zero, List.set_cons_succ]
          refine wp_iload (pc := 69) (i := 6) dX7_soon_69 rfl ?_
          refine wp_ldc (pc := 71) kn_X7_144 dX7_soon_71 ?_
          first | (with_reducible show WP _ _ _ _ _ _ (Value.int (nI _) :: Value.int (nI _) :: _) _; refine wp_icmp_eqN (pc := 73) (tgt := 94) dX7_soon_73 (by decide) (by omega) (by omega) (fun c73 => ?_) (fun c73 => ?_)) | refine wp_icmp_eq (pc := 73) (tgt := 94) dX7_soon_73 (by decide) (fun c73 => ?_) (fun c73 => ?_)
          refine wp_iconst (pc := 94) (v := nI 0) dX7_soon_94 rfl ?_
          refine wp_istore (pc := 95) (i := 7) dX7_soon_95 rfl (by decide) rfl ?_
          dsimp only [List.set_cons_zero, List.set_cons_succ]
          refine wp_iload (pc := 97) (i := 7) dX7_soon_97 rfl ?_
          first | (with_reducible show WP _ _ _ _ _ _ (Value.int (bI _) :: _) _; refine wp_if_eqB (pc := 99) (tgt := 107) dX7_soon_99 (by decide) (fun c99 => ?_) (fun c99 => ?_)) | (with_reducible show WP _ _ _ _ _ _ (Value.int (nI _) :: _) _; refine wp_if_eqN (pc := 99) (tgt := 107) dX7_soon_99 (by decide) (by omega) (fun c99 => ?_) (fun c99 => ?_)) | refine wp_if_eq (pc := 99) (tgt := 107) dX7_soon_99 (by decide) (fun c99 => ?_) (fun c99 => ?_)
          refine wp_iload_n (pc := 107) (i := 3) dX7_soon_107 rfl rfl ?_
          refine wp_istore_n (pc := 108) (i := 3) dX7_soon_108 rfl rfl (by decide) rfl ?_
          dsimp only [List.set_cons_zero, List.set_cons_succ]
          refine wp_iload (pc := 109) (i := 7) dX7_soon_109 rfl ?_
          first | (with_reducible show WP _ _ _ _ _ _ (Value.int (bI _) :: _) _; refine wp_if_eqB (pc := 111) (tgt := 119) dX7_soon_111 (by decide) (fun c111 => ?_) (fun c111 => ?_)) | (with_reducible show WP _ _ _ _ _ _ (Value.int (nI _) :: _) _; refine wp_if_eqN (pc := 111) (tgt := 119) dX7_soon_111 (by decide) (by omega) (fun c111 => ?_) (fun c111 => ?_)) | refine wp_if_eq (pc := 111) (tgt := 119) dX7_soon_111 (by decide) (fun c111 => ?_) (fun c111 => ?_)
          refine wp_iload (pc := 119) (i := 4) dX7_soon_119 rfl ?_
          refine wp_istore (pc := 121) (i := 4) dX7_soon_121 rfl (by decide) rfl ?_
          dsimp only [List.set_cons_zero, List.set_cons_succ]
          first | refine wp_iincN (pc := 123) (i := 5) (n := 1) dX7_soon_123 rfl rfl (by decide) rfl ?_ | refine wp_iinc (pc := 123) (i := 5) dX7_soon_123 rfl rfl rfl (by decide) rfl ?_
          dsimp only [List.set_cons_zero, List.set_cons_succ]
          refine wp_goto (pc := 126) (tgt := 31) dX7_soon_126 (by decide) ?_
          rotate_left
          refine wp_iload (pc := 114) (i := 6) dX7_soon_114 rfl ?_
          refine wp_goto (pc := 116) (tgt := 121) dX7_soon_116 (by decide) ?_
          refine wp_istore (pc := 121) (i := 4) dX7_soon_121 rfl (by decide) rfl ?_
          dsimp only [List.set_cons_zero, List.set_cons_succ]
          first | refine wp_iincN (pc := 123) (i := 5) (n := 1) dX7_soon_123 rfl rfl (by decide) rfl ?_ | refine wp_iinc (pc := 123) (i := 5) dX7_soon_123 rfl rfl rfl (by decide) rfl ?_
          dsimp only [List.set_cons_zero, List.set_cons_succ]
          refine wp_goto (pc := 126) (tgt := 31) dX7_soon_126 (by decide) ?_
          rotate_left
          refine wp_iload (pc := 102) (i := 5) dX7_soon_102 rfl ?_
          refine wp_goto (pc := 104) (tgt := 108) dX7_soon_104 (by decide) ?_
          refine wp_istore_n (pc := 108) (i := 3) dX7_soon_108 rfl rfl (by decide) rfl ?_
          dsimp only [List.set_cons_zero, List.set_cons_succ]
          refine wp_iload (pc := 109) (i := 7) dX7_soon_109 rfl ?_
          first | (with_reducible show WP _ _ _ _ _ _ (Value.int (bI _) :: _) _; refine wp_if_eqB (pc := 111) (tgt := 119) dX7_soon_111 (by decide) (fun c111 => ?_) (fun c111 => ?_)) | (with_reducible show WP _ _ _ _ _ _ (Value.int (nI _) :: _) _; refine wp_if_eqN (pc := 111) (tgt := 119) dX7_soon_111 (by decide) (by omega) (fun c111 => ?_) (fun c111 => ?_)) | refine wp_if_eq (pc := 111) (tgt := 119) dX7_soon_111 (by decide) (fun c111 => ?_) (fun c111 => ?_)
          refine wp_iload (pc := 119) (i := 4) dX7_soon_119 rfl ?_
          refine wp_istore (pc := 121) (i := 4) dX7_soon_121 rfl (by decide) rfl ?_
          dsimp only [List.set_cons_zero, List.set_cons_succ]
          first | refine wp_iincN (pc := 123) (i := 5) (n := 1) dX7_soon_123 rfl rfl (by decide) rfl ?_ | refine wp_iinc (pc := 123) (i := 5) dX7_soon_123 rfl rfl rfl (by decide) rfl ?_
          dsimp only [List.set_cons_zero, List.set_cons_succ]
          refine wp_goto (pc := 126) (tgt := 31) dX7_soon_126 (by decide) ?_
          rotate_left
          refine wp_iload (pc := 114) (i := 6) dX7_soon_114 rfl ?_
          refine wp_goto (pc := 116) (tgt := 121) dX7_soon_116 (by decide) ?_
          refine wp_istore (pc := 121) (i := 4) dX7_soon_121 rfl (by decide) rfl ?_
          dsimp only [List.set_cons_zero, List.set_cons_succ]
          first | refine wp_iincN (pc := 123) (i := 5) (n := 1) dX7_soon_123 rfl rfl (by decide) rfl ?_ | refine wp_iinc (pc := 123) (i := 5) dX7_soon_123 rfl rfl rfl (by decide) rfl ?_
          dsimp only [List.set_cons_zero, List.set_cons_succ]
          refine wp_goto (pc := 126) (tgt := 31) dX7_soon_126 (by decide) ?_
          rotate_left
          refine wp_iload (pc := 76) (i := 4) dX7_soon_76 rfl ?_
          refine wp_ldc (pc := 78) kn_X7_144 dX7_soon_78 ?_
          first | (with_reducible show WP _ _ _ _ _ _ (Value.int (nI _) :: Value.int (nI _) :: _) _; refine wp_icmp_eqN (pc := 80) (tgt := 90) dX7_soon_80 (by decide) (by omega) (by omega) (fun c80 => ?_) (fun c80 => ?_)) | refine wp_icmp_eq (pc := 80) (tgt := 90) dX7_soon_80 (by decide) (fun c80 => ?_) (fun c80 => ?_)
          refine wp_iconst (pc := 90) (v := nI 1) dX7_soon_90 rfl ?_
          refine wp_goto (pc := 91) (tgt := 95) dX7_soon_91 (by decide) ?_
          refine wp_istore (pc := 95) (i := 7) dX7_soon_95 rfl (by decide) rfl ?_
          dsimp only [List.set_cons_zero, List.set_cons_succ]
          refine wp_iload (pc := 97) (i := 7) dX7_soon_97 rfl ?_
          first | (with_reducible show WP _ _ _ _ _ _ (Value.int (bI _) :: _) _; refine wp_if_eqB (pc := 99) (tgt := 107) dX7_soon_99 (by decide) (fun c99 => ?_) (fun c99 => ?_)) | (with_reducible show WP _ _ _ _ _ _ (Value.int (nI _) :: _) _; refine wp_if_eqN (pc := 99) (tgt := 107) dX7_soon_99 (by decide) (by omega) (fun c99 => ?_) (fun c99 => ?_)) | refine wp_if_eq (pc := 99) (tgt := 107) dX7_soon_99 (by decide) (fun c99 => ?_) (fun c99 => ?_)
          refine wp_iload_n (pc := 107) (i := 3) dX7_soon_107 rfl rfl ?_
          refine wp_istore_n (pc := 108) (i := 3) dX7_soon_108 rfl rfl (by decide) rfl ?_
          dsimp only [List.set_cons_zero, List.set_cons_succ]
          refine wp_iload (pc := 109) (i := 7) dX7_soon_109 rfl ?_
          first | (with_reducible show WP _ _ _ _ _ _ (Value.int (bI _) :: _) _; refine wp_if_eqB (pc := 111) (tgt := 119) dX7_soon_111 (by decide) (fun c111 => ?_) (fun c111 => ?_)) | (with_reducible show WP _ _ _ _ _ _ (Value.int (nI _) :: _) _; refine wp_if_eqN (pc := 111) (tgt := 119) dX7_soon_111 (by decide) (by omega) (fun c111 => ?_) (fun c111 => ?_)) | refine wp_if_eq (pc := 111) (tgt := 119) dX7_soon_111 (by decide) (fun c111 => ?_) (fun c111 => ?_)
          refine wp_iload (pc := 119) (i := 4) dX7_soon_119 rfl ?_
          refine wp_istore (pc := 121) (i := 4) dX7_soon_121 rfl (by decide) rfl ?_
          dsimp only [List.set_cons_zero, List.set_cons_succ]
          first | refine wp_iincN (pc := 123) (i := 5) (n := 1) dX7_soon_123 rfl rfl (by decide) rfl ?_ | refine wp_iinc (pc := 123) (i := 5) dX7_soon_123 rfl rfl rfl (by decide) rfl ?_
          dsimp only [List.set_cons_zero, List.set_cons_succ]
          refine wp_goto (pc := 126) (tgt := 31) dX7_soon_126 (by decide) ?_
          rotate_left
          refine wp_iload (pc := 114) (i := 6) dX7_soon_114 rfl ?_
          refine wp_goto (pc := 116) (tgt := 121) dX7_soon_116 (by decide) ?_
          refine wp_istore (pc := 121) (i := 4) dX7_soon_121 rfl (by decide) rfl ?_
          dsimp only [List.set_cons_zero, List.set_cons_succ]
          first | refine wp_iincN (pc := 123) (i := 5) (n := 1) dX7_soon_123 rfl rfl (by decide) rfl ?_ | refine wp_iinc (pc := 123) (i := 5) dX7_soon_123 rfl rfl rfl (by decide) rfl ?_
          dsimp only [List.set_cons_zero, List.set_cons_succ]
          refine wp_goto (pc := 126) (tgt := 31) dX7_soon_126 (by decide) ?_
          rotate_left
          refine wp_iload (pc := 102) (i := 5) dX7_soon_102 rfl ?_
          refine wp_goto (pc := 104) (tgt := 108) dX7_soon_104 (by decide) ?_
          refine wp_istore_n (pc := 108) (i := 3) dX7_soon_108 rfl rfl (by decide) rfl ?_
          dsimp only [List.set_cons_zero, List.set_cons_succ]
          refine wp_iload (pc := 109) (i := 7) dX7_soon_109 rfl ?_
          first | (with_reducible show WP _ _ _ _ _ _ (Value.int (bI _) :: _) _; refine wp_if_eqB (pc := 111) (tgt := 119) dX7_soon_111 (by decide) (fun c111 => ?_) (fun c111 => ?_)) | (with_reducible show WP _ _ _ _ _ _ (Value.int (nI _) :: _) _; refine wp_if_eqN (pc := 111) (tgt := 119) dX7_soon_111 (by decide) (by omega) (fun c111 => ?_) (fun c111 => ?_)) | refine wp_if_eq (pc := 111) (tgt := 119) dX7_soon_111 (by decide) (fun c111 => ?_) (fun c111 => ?_)
          refine wp_iload (pc := 119) (i := 4) dX7_soon_119 rfl ?_
          refine wp_istore (pc := 121) (i := 4) dX7_soon_121 rfl (by decide) rfl ?_
          dsimp only [List.set_cons_zero, List.set_cons_succ]
          first | refine wp_iincN (pc := 123) (i := 5) (n := 1) dX7_soon_123 rfl rfl (by decide) rfl ?_ | refine wp_iinc (pc := 123) (i := 5) dX7_soon_123 rfl rfl rfl (by decide) rfl ?_
          dsimp only [List.set_cons_zero, List.set_cons_succ]
          refine wp_goto (pc := 126) (tgt := 31) dX7_soon_126 (by decide) ?_
          rotate_left
          refine wp_iload (pc := 114) (i := 6) dX7_soon_114 rfl ?_
          refine wp_goto (pc := 116) (tgt := 121) dX7_soon_116 (by decide) ?_
          refine wp_istore (pc := 121) (i := 4) dX7_soon_121 rfl (by decide) rfl ?_
          dsimp only [List.set_cons_zero, List.set_cons_succ]
          first | refine wp_iincN (pc := 123) (i := 5) (n := 1) dX7_soon_123 rfl rfl (by decide) rfl ?_ | refine wp_iinc (pc := 123) (i := 5) dX7_soon_123 rfl rfl rfl (by decide) rfl ?_
          dsimp only [List.set_cons_zero, List.set_cons_succ]
          refine wp_goto (pc := 126) (tgt := 31) dX7_soon_126 (by decide) ?_
          rotate_left
          refine wp_iload (pc := 83) (i := 6) dX7_soon_83 rfl ?_
          refine wp_iload (pc := 85) (i := 4) dX7_soon_85 rfl ?_
          first | (with_reducible show WP _ _ _ _ _ _ (Value.int (nI _) :: Value.int (nI _) :: _) _; refine wp_icmp_geN (pc := 87) (tgt := 94) dX7_soon_87 (by decide) (by omega) (by omega) (fun c87 => ?_) (fun c87 => ?_)) | refine wp_icmp_ge (pc := 87) (tgt := 94) dX7_soon_87 (by decide) (fun c87 => ?_) (fun c87 => ?_)
          refine wp_iconst (pc := 94) (v := nI 0) dX7_soon_94 rfl ?_
          refine wp_istore (pc := 95) (i := 7) dX7_soon_95 rfl (by decide) rfl ?_
          dsimp only [List.set_cons_zero, List.set_cons_succ]
          refine wp_iload (pc := 97) (i := 7) dX7_soon_97 rfl ?_
          first | (with_reducible show WP _ _ _ _ _ _ (Value.int (bI _) :: _) _; refine wp_if_eqB (pc := 99) (tgt := 107) dX7_soon_99 (by decide) (fun c99 => ?_) (fun c99 => ?_)) | (with_reducible show WP _ _ _ _ _ _ (Value.int (nI _) :: _) _; refine wp_if_eqN (pc := 99) (tgt := 107) dX7_soon_99 (by decide) (by omega) (fun c99 => ?_) (fun c99 => ?_)) | refine wp_if_eq (pc := 99) (tgt := 107) dX7_soon_99 (by decide) (fun c99 => ?_) (fun c99 => ?_)
          refine wp_iload_n (pc := 107) (i := 3) dX7_soon_107 rfl rfl ?_
          refine wp_istore_n (pc := 108) (i := 3) dX7_soon_108 rfl rfl (by decide) rfl ?_
          dsimp only [List.set_cons_zero, List.set_cons_succ]
          refine wp_iload (pc := 109) (i := 7) dX7_soon_109 rfl ?_
          first | (with_reducible show WP _ _ _ _ _ _ (Value.int (bI _) :: _) _; refine wp_if_eqB (pc := 111) (tgt := 119) dX7_soon_111 (by decide) (fun c111 => ?_) (fun c111 => ?_)) | (with_reducible show WP _ _ _ _ _ _ (Value.int (nI _) :: _) _; refine wp_if_eqN (pc := 111) (tgt := 119) dX7_soon_111 (by decide) (by omega) (fun c111 => ?_) (fun c111 => ?_)) | refine wp_if_eq (pc := 111) (tgt := 119) dX7_soon_111 (by decide) (fun c111 => ?_) (fun c111 => ?_)
          refine wp_iload (pc := 119) (i := 4) dX7_soon_119 rfl ?_
          refine wp_istore (pc := 121) (i := 4) dX7_soon_121 rfl (by decide) rfl ?_
          dsimp only [List.set_cons_zero, List.set_cons_succ]
          first | refine wp_iincN (pc := 123) (i := 5) (n := 1) dX7_soon_123 rfl rfl (by decide) rfl ?_ | refine wp_iinc (pc := 123) (i := 5) dX7_soon_123 rfl rfl rfl (by decide) rfl ?_
          dsimp only [List.set_cons_zero, List.set_cons_succ]
          refine wp_goto (pc := 126) (tgt := 31) dX7_soon_126 (by decide) ?_
          rotate_left
          refine wp_iload (pc := 114) (i := 6) dX7_soon_114 rfl ?_
          refine wp_goto (pc := 116) (tgt := 121) dX7_soon_116 (by decide) ?_
          refine wp_istore (pc := 121) (i := 4) dX7_soon_121 rfl (by decide) rfl ?_
          dsimp only [List.set_cons_zero, List.set_cons_succ]
          first | refine wp_iincN (pc := 123) (i := 5) (n := 1) dX7_soon_123 rfl rfl (by decide) rfl ?_ | refine wp_iinc (pc := 123) (i := 5) dX7_soon_123 rfl rfl rfl (by decide) rfl ?_
          dsimp only [List.set_cons_zero, List.set_cons_succ]
          refine wp_goto (pc := 126) (tgt := 31) dX7_soon_126 (by decide) ?_
          rotate_left
          refine wp_iload (pc := 102) (i := 5) dX7_soon_102 rfl ?_
          refine wp_goto (pc := 104) (tgt := 108) dX7_soon_104 (by decide) ?_
          refine wp_istore_n (pc := 108) (i := 3) dX7_soon_108 rfl rfl (by decide) rfl ?_
          dsimp only [List.set_cons_zero, List.set_cons_succ]
          refine wp_iload (pc := 109) (i := 7) dX7_soon_109 rfl ?_
          first | (with_reducible show WP _ _ _ _ _ _ (Value.int (bI _) :: _) _; refine wp_if_eqB (pc := 111) (tgt := 119) dX7_soon_111 (by decide) (fun c111 => ?_) (fun c111 => ?_)) | (with_reducible show WP _ _ _ _ _ _ (Value.int (nI _) :: _) _; refine wp_if_eqN (pc := 111) (tgt := 119) dX7_soon_111 (by decide) (by omega) (fun c111 => ?_) (fun c111 => ?_)) | refine wp_if_eq (pc := 111) (tgt := 119) dX7_soon_111 (by decide) (fun c111 => ?_) (fun c111 => ?_)
          refine wp_iload (pc := 119) (i := 4) dX7_soon_119 rfl ?_
          refine wp_istore (pc := 121) (i := 4) dX7_soon_121 rfl (by decide) rfl ?_
          dsimp only [List.set_cons_zero, List.set_cons_succ]
          first | refine wp_iincN (pc := 123) (i := 5) (n := 1) dX7_soon_123 rfl rfl (by decide) rfl ?_ | refine wp_iinc (pc := 123) (i := 5) dX7_soon_123 rfl rfl rfl (by decide) rfl ?_
          dsimp only [List.set_cons_zero, List.set_cons_succ]
          refine wp_goto (pc := 126) (tgt := 31) dX7_soon_126 (by decide) ?_
          rotate_left
          refine wp_iload (pc := 114) (i := 6) dX7_soon_114 rfl ?_
          refine wp_goto (pc := 116) (tgt := 121) dX7_soon_116 (by decide) ?_
          refine wp_istore (pc := 121) (i := 4) dX7_soon_121 rfl (by decide) rfl ?_
          dsimp only [List.set_cons_zero, List.set_cons_succ]
          first | refine wp_iincN (pc := 123) (i := 5) (n := 1) dX7_soon_123 rfl rfl (by decide) rfl ?_ | refine wp_iinc (pc := 123) (i := 5) dX7_soon_123 rfl rfl rfl (by decide) rfl ?_
          dsimp only [List.set_cons_zero, List.set_cons_succ]
          refine wp_goto (pc := 126) (tgt := 31) dX7_soon_126 (by decide) ?_
          rotate_left
          refine wp_iconst (pc := 90) (v := nI 1) dX7_soon_90 rfl ?_
          refine wp_goto (pc := 91) (tgt := 95) dX7_soon_91 (by decide) ?_
          refine wp_istore (pc := 95) (i := 7) dX7_soon_95 rfl (by decide) rfl ?_
          dsimp only [List.set_cons_zero, List.set_cons_succ]
          refine wp_iload (pc := 97) (i := 7) dX7_soon_97 rfl ?_
          first | (with_reducible show WP _ _ _ _ _ _ (Value.int (bI _) :: _) _; refine wp_if_eqB (pc := 99) (tgt := 107) dX7_soon_99 (by decide) (fun c99 => ?_) (fun c99 => ?_)) | (with_reducible show WP _ _ _ _ _ _ (Value.int (nI _) :: _) _; refine wp_if_eqN (pc := 99) (tgt := 107) dX7_soon_99 (by decide) (by omega) (fun c99 => ?_) (fun c99 => ?_)) | refine wp_if_eq (pc := 99) (tgt := 107) dX7_soon_99 (by decide) (fun c99 => ?_) (fun c99 => ?_)
          refine wp_iload_n (pc := 107) (i := 3) dX7_soon_107 rfl rfl ?_
          refine wp_istore_n (pc := 108) (i := 3) dX7_soon_108 rfl rfl (by decide) rfl ?_
          dsimp only [List.set_cons_zero, List.set_cons_succ]
          refine wp_iload (pc := 109) (i := 7) dX7_soon_109 rfl ?_
          first | (with_reducible show WP _ _ _ _ _ _ (Value.int (bI _) :: _) _; refine wp_if_eqB (pc := 111) (tgt := 119) dX7_soon_111 (by decide) (fun c111 => ?_) (fun c111 => ?_)) | (with_reducible show WP _ _ _ _ _ _ (Value.int (nI _) :: _) _; refine wp_if_eqN (pc := 111) (tgt := 119) dX7_soon_111 (by decide) (by omega) (fun c111 => ?_) (fun c111 => ?_)) | refine wp_if_eq (pc := 111) (tgt := 119) dX7_soon_111 (by decide) (fun c111 => ?_) (fun c111 => ?_)
          refine wp_iload (pc := 119) (i := 4) dX7_soon_119 rfl ?_
          refine wp_istore (pc := 121) (i := 4) dX7_soon_121 rfl (by decide) rfl ?_
          dsimp only [List.set_cons_zero, List.set_cons_succ]
          first | refine wp_iincN (pc := 123) (i := 5) (n := 1) dX7_soon_123 rfl rfl (by decide) rfl ?_ | refine wp_iinc (pc := 123) (i := 5) dX7_soon_123 rfl rfl rfl (by decide) rfl ?_
          dsimp only [List.set_cons_zero, List.set_cons_succ]
          refine wp_goto (pc := 126) (tgt := 31) dX7_soon_126 (by decide) ?_
          rotate_left
          refine wp_iload (pc := 114) (i := 6) dX7_soon_114 rfl ?_
          refine wp_goto (pc := 116) (tgt := 121) dX7_soon_116 (by decide) ?_
          refine wp_istore (pc := 121) (i := 4) dX7_soon_121 rfl (by decide) rfl ?_
          dsimp only [List.set_cons_zero, List.set_cons_succ]
          first | refine wp_iincN (pc := 123) (i := 5) (n := 1) dX7_soon_123 rfl rfl (by decide) rfl ?_ | refine wp_iinc (pc := 123) (i := 5) dX7_soon_123 rfl rfl rfl (by decide) rfl ?_
          dsimp only [List.set_cons_zero, List.set_cons_succ]
          refine wp_goto (pc := 126) (tgt := 31) dX7_soon_126 (by decide) ?_
          rotate_left
          refine wp_iload (pc := 102) (i := 5) dX7_soon_102 rfl ?_
          refine wp_goto (pc := 104) (tgt := 108) dX7_soon_104 (by decide) ?_
          refine wp_istore_n (pc := 108) (i := 3) dX7_soon_108 rfl rfl (by decide) rfl ?_
          dsimp only [List.set_cons_zero, List.set_cons_succ]
          refine wp_iload (pc := 109) (i := 7) dX7_soon_109 rfl ?_
          first | (with_reducible show WP _ _ _ _ _ _ (Value.int (bI _) :: _) _; refine wp_if_eqB (pc := 111) (tgt := 119) dX7_soon_111 (by decide) (fun c111 => ?_) (fun c111 => ?_)) | (with_reducible show WP _ _ _ _ _ _ (Value.int (nI _) :: _) _; refine wp_if_eqN (pc := 111) (tgt := 119) dX7_soon_111 (by decide) (by omega) (fun c111 => ?_) (fun c111 => ?_)) | refine wp_if_eq (pc := 111) (tgt := 119) dX7_soon_111 (by decide) (fun c111 => ?_) (fun c111 => ?_)
          refine wp_iload (pc := 119) (i := 4) dX7_soon_119 rfl ?_
          refine wp_istore (pc := 121) (i := 4) dX7_soon_121 rfl (by decide) rfl ?_
          dsimp only [List.set_cons_zero, List.set_cons_succ]
          first | refine wp_iincN (pc := 123) (i := 5) (n := 1) dX7_soon_123 rfl rfl (by decide) rfl ?_ | refine wp_iinc (pc := 123) (i := 5) dX7_soon_123 rfl rfl rfl (by decide) rfl ?_
          dsimp only [List.set_cons_zero, List.set_cons_succ]
          refine wp_goto (pc := 126) (tgt := 31) dX7_soon_126 (by decide) ?_
          rotate_left
          refine wp_iload (pc := 114) (i := 6) dX7_soon_114 rfl ?_
          refine wp_goto (pc := 116) (tgt := 121) dX7_soon_116 (by decide) ?_
          refine wp_istore (pc := 121) (i := 4) dX7_soon_121 rfl (by decide) rfl ?_
          dsimp only [List.set_cons_zero, List.set_cons_succ]
          first | refine wp_iincN (pc := 123) (i := 5) (n := 1) dX7_soon_123 rfl rfl (by decide) rfl ?_ | refine wp_iinc (pc := 123) (i := 5) dX7_soon_123 rfl rfl rfl (by decide) rfl ?_
          dsimp only [List.set_cons_zero, List.set_cons_succ]
          refine wp_goto (pc := 126) (tgt := 31) dX7_soon_126 (by decide) ?_
          rotate_left
          all_goals first | exact absurd c73 (nI_none (by omega)) | exact absurd c80 (nI_none (by omega)) | exact absurd c99 (by decide) | exact absurd c111 (by decide) | (rw [if_neg (by omega)] at fin; exact fin _ _) | (rw [if_pos (by omega)] at fin; exact fin _ _)
  refine wp_ldc (pc := 21) kn_X7_144 dX7_soon_21 ?_
  refine wp_istore_n (pc := 23) (i := 3) dX7_soon_23 rfl rfl (by decide) rfl ?_
  dsimp only [List.set_cons_zero, List.set_cons_succ]
  refine wp_ldc (pc := 24) kn_X7_144 dX7_soon_24 ?_
  refine wp_istore (pc := 26) (i := 4) dX7_soon_26 rfl (by decide) rfl ?_
  dsimp only [List.set_cons_zero, List.set_cons_succ]
  refine wp_iconst (pc := 28) (v := nI 0) dX7_soon_28 rfl ?_
  refine wp_istore (pc := 29) (i := 5) dX7_soon_29 rfl (by decide) rfl ?_
  dsimp only [List.set_cons_zero, List.set_cons_succ]
  rotate_left
  exact loop (T 1) 0 h _ _ (by omega) (FB.rf h 1512)
end RSOON
