section DACTS2
variable {G : Gt} {d : Nat} {h : Hp} {σ : Sg}
theorem okp_pass {T : Tn} (hO : OKP T) (h0 : 0 < T 1) (hd : T 4 + 1 ≤ 999) : OKP (passT T) ∧ 0 < passT T 1 ∧ passT T 4 = T 4 + 1 := by
  have p0 := (hO.1.2.2.2.2.2.1 h0).1
  have e4 : passT T 4 = T 4 + 1 := if_pos rfl
  refine ⟨⟨okt_pass hO.1 h0 (by omega), by omega⟩, ?_, e4⟩
  have o0 := hO.1.1
  unfold passT
  rw [if_neg (by omega), if_neg (by omega), if_neg (by omega), vs_out o0 p0 (by omega)]
  exact h0
/-- days keep what must hold -/
theorem dys_ok (hO : OKS σ) (h0 : 0 < gT σ 1) : ∀ n, gT σ 4 + n ≤ 999 → OKP (gT (dys σ n)) ∧ 0 < gT (dys σ n) 1 ∧ gT (dys σ n) 4 = gT σ 4 + n
  | 0, _ => ⟨hO.1, h0, rfl⟩
  | n + 1, hn => by
    obtain ⟨a, b, c⟩ := dys_ok hO h0 n (by omega)
    have := okp_pass a b (by omega)
    exact ⟨this.1, this.2.1, by rw [show gT (dys σ (n + 1)) = passT (gT (dys σ n)) from rfl, this.2.2, c]; omega⟩
theorem sd_days {n : Int32} {K : Int32 → Hp → Prop} (H : DI h σ) (hO : OKS σ) (k : ∀ h', DI h' (fDays σ n).2 → RS h h' → K (fDays σ n).1 h') : Call G (d + 4) mX6_days [.ref 0, .int n] h (pI K) := by
  have hW := H.1
  have hOT := hO.1.1
  have hd9 := hO.1.2
  obtain ⟨o0, o1, o2, o3, o4, o5, o6, o7, o8⟩ := id hOT
  have e4 : h 27 4 = nI (gT σ 4) := hW.2.2.2.2.1
  refine Call.of (M := mX6_days) (n := 1) (by decide +kernel) rfl ?_
  show WP _ _ _ _ 0 [some (.ref 0), some (.int n), none] [] _
  refine wp_aload_n (pc := 0) (i := 0) dX6_days_0 rfl rfl ?_
  refine wp_cV0i (pc := 1) lk_X6_154 dX6_days_1 rfl rfl rfl (sp_noTown hW hOT ?_)
  first | (with_reducible show WP _ _ _ _ _ _ (Value.int (bI _) :: _) _; refine wp_if_eqB (pc := 4) (tgt := 10) dX6_days_4 (by decide) (fun c4 => ?_) (fun c4 => ?_)) | (with_reducible show WP _ _ _ _ _ _ (Value.int (nI _) :: _) _; refine wp_if_eqN (pc := 4) (tgt := 10) dX6_days_4 (by decide) (by omega) (fun c4 => ?_) (fun c4 => ?_)) | refine wp_if_eq (pc := 4) (tgt := 10) dX6_days_4 (by decide) (fun c4 => ?_) (fun c4 => ?_)
  refine wp_iload_n (pc := 10) (i := 1) dX6_days_10 rfl rfl ?_
  refine wp_iconst (pc := 11) (v := nI 1) dX6_days_11 rfl ?_
  refine wp_bipush (pc := 12) (v := nI 24) dX6_days_12 rfl ?_
  refine wp_cS3i (pc := 14) lk_X6_74 dX6_days_14 rfl (sp_btw (by decide) (by decide) ?_)
  first | (with_reducible show WP _ _ _ _ _ _ (Value.int (bI _) :: _) _; refine wp_if_neB (pc := 17) (tgt := 23) dX6_days_17 (by decide) (fun c17 => ?_) (fun c17 => ?_)) | (with_reducible show WP _ _ _ _ _ _ (Value.int (nI _) :: _) _; refine wp_if_neN (pc := 17) (tgt := 23) dX6_days_17 (by decide) (by omega) (fun c17 => ?_) (fun c17 => ?_)) | refine wp_if_ne (pc := 17) (tgt := 23) dX6_days_17 (by decide) (fun c17 => ?_) (fun c17 => ?_)
  rotate_left
  refine wp_ldc (pc := 20) kn_X6_78 dX6_days_20 ?_
  refine wp_iret (pc := 22) dX6_days_22 rfl ?_
  rotate_left
  refine wp_ldc (pc := 7) kn_X6_153 dX6_days_7 ?_
  refine wp_iret (pc := 9) dX6_days_9 rfl ?_
  rotate_left
  · have c4 := of_decide_eq_false c4
    rw [fDays, if_neg c4, c17] at k
    obtain ⟨m, hm1, hm, rfl⟩ := btw_t (by decide) c17
    rw [nI_clamp (show m < 2 ^ 31 by omega)] at k
    by_cases hq : gT σ 4 + m ≤ 999
    · simp only [if_true, hq] at k
      have loop : ∀ j i h1, i + j = m → DI h1 (dys σ i) → RS h h1 → WP G (d + 4) mX6_days (pI K) 43 [some (.ref 0), some (.int (nI m)), some (.int (nI i))] [] h1 := by
        intro j
        induction j with
        | zero =>
          intro i h1 hij H1 hr1
          obtain ⟨a, b, c⟩ := dys_ok hO (by omega) i (by omega)
          have r4 : h1 27 4 = nI (gT σ 4 + m) := by rw [H1.1.2.2.2.2.1, c, show i = m by omega]
          refine wp_iload_n (pc := 43) (i := 2) dX6_days_43 rfl rfl ?_
          refine wp_iload_n (pc := 44) (i := 1) dX6_days_44 rfl rfl ?_
          first | (with_reducible show WP _ _ _ _ _ _ (Value.int (nI _) :: Value.int (nI _) :: _) _; refine wp_icmp_geN (pc := 45) (tgt := 72) dX6_days_45 (by decide) (by omega) (by omega) (fun c45 => ?_) (fun c45 => ?_)) | refine wp_icmp_ge (pc := 45) (tgt := 72) dX6_days_45 (by decide) (fun c45 => ?_) (fun c45 => ?_)
          refine wp_aload_n (pc := 72) (i := 0) dX6_days_72 rfl rfl ?_
          refine wp_gfr (pc := 73) fk_X6_26 dX6_days_73 rfl rfl (by decide) ?_
          refine wp_gfv (pc := 76) fk_X6_158 dX6_days_76 rfl rfl (by first | with_reducible assumption | with_reducible exact hs_same _ _ _ _ | rfl) ?_
          refine wp_iret (pc := 79) dX6_days_79 rfl ?_
          rotate_left
          rotate_left
          · rw [show i = m by omega] at H1; exact k h1 H1 hr1
          · exact absurd hij (by omega)
        | succ j ih =>
          intro i h1 hij H1 hr1
          obtain ⟨a, b, c⟩ := dys_ok hO (by omega) i (by omega)
          refine wp_iload_n (pc := 43) (i := 2) dX6_days_43 rfl rfl ?_
          refine wp_iload_n (pc := 44) (i := 1) dX6_days_44 rfl rfl ?_
          first | (with_reducible show WP _ _ _ _ _ _ (Value.int (nI _) :: Value.int (nI _) :: _) _; refine wp_icmp_geN (pc := 45) (tgt := 72) dX6_days_45 (by decide) (by omega) (by omega) (fun c45 => ?_) (fun c45 => ?_)) | refine wp_icmp_ge (pc := 45) (tgt := 72) dX6_days_45 (by decide) (fun c45 => ?_) (fun c45 => ?_)
          rotate_left
          refine wp_aload_n (pc := 48) (i := 0) dX6_days_48 rfl rfl ?_
          refine wp_gfr (pc := 49) fk_X6_43 dX6_days_49 rfl rfl (by decide) ?_
          refine wp_aload_n (pc := 52) (i := 0) dX6_days_52 rfl rfl ?_
          refine wp_gfr (pc := 53) fk_X6_26 dX6_days_53 rfl rfl (by decide) ?_
          refine wp_cV1v (pc := 56) lk_X6_161 dX6_days_56 rfl rfl rfl (sp_keep H1.1 a.1 H1.2.1 (fun h2 hA2 hf2 => ?_))
          rotate_left
          · exact absurd hij (by omega)
          have hW2 := keep_frame hf2 H1.1
          refine wp_aload_n (pc := 59) (i := 0) dX6_days_59 rfl rfl ?_
          refine wp_gfr (pc := 60) fk_X6_26 dX6_days_60 rfl rfl (by decide) ?_
          refine wp_cV0v (pc := 63) lk_X6_165 dX6_days_63 rfl rfl rfl (sp_passDay isT_27 hW2 a.1 b (by have := a.2; omega) (fun h3 hW3 hF3 => ?_))
          first | refine wp_iincN (pc := 66) (i := 2) (n := 1) dX6_days_66 rfl rfl (by decide) rfl ?_ | refine wp_iinc (pc := 66) (i := 2) dX6_days_66 rfl rfl rfl (by decide) rfl ?_
          dsimp only [List.set_cons_zero, List.set_cons_succ]
          refine wp_goto (pc := 69) (tgt := 43) dX6_days_69 (by decide) ?_
          rotate_left
          refine ih (i + 1) h3 (by omega) ?_ (fun q hq => by rw [hF3 q (by omega), hf2 q (by omega)]; exact hr1 q hq)
          exact H1.acts hW3 (hA2.cg (fun q _ _ => hF3 q (by omega))) (fun q hq => by rw [hF3 q (by omega)]; exact hf2 q (by omega))
      refine wp_aload_n (pc := 23) (i := 0) dX6_days_23 rfl rfl ?_
      refine wp_gfr (pc := 24) fk_X6_26 dX6_days_24 rfl rfl (by decide) ?_
      refine wp_gfv (pc := 27) fk_X6_158 dX6_days_27 rfl rfl (by first | with_reducible assumption | with_reducible exact hs_same _ _ _ _ | rfl) ?_
      refine wp_iload_n (pc := 30) (i := 1) dX6_days_30 rfl rfl ?_
      first | (with_reducible show WP _ _ _ _ _ _ (Value.int (nI _) :: Value.int (nI _) :: _) _; refine wp_iaddN (pc := 31) dX6_days_31 ?_) | refine wp_iadd (pc := 31) dX6_days_31 ?_
      refine wp_sipush (pc := 32) (v := nI 999) dX6_days_32 rfl ?_
      first | (with_reducible show WP _ _ _ _ _ _ (Value.int (nI _) :: Value.int (nI _) :: _) _; refine wp_icmp_leN (pc := 35) (tgt := 41) dX6_days_35 (by decide) (by omega) (by omega) (fun c35 => ?_) (fun c35 => ?_)) | refine wp_icmp_le (pc := 35) (tgt := 41) dX6_days_35 (by decide) (fun c35 => ?_) (fun c35 => ?_)
      refine wp_iconst (pc := 41) (v := nI 0) dX6_days_41 rfl ?_
      refine wp_istore_n (pc := 42) (i := 2) dX6_days_42 rfl rfl (by decide) rfl ?_
      dsimp only [List.set_cons_zero, List.set_cons_succ]
      rotate_left
      refine wp_ldc (pc := 38) kn_X6_118 dX6_days_38 ?_
      refine wp_iret (pc := 40) dX6_days_40 rfl ?_
      rotate_left
      · exact loop m 0 h (by omega) H RS.rf
      · exact absurd hq (by omega)
    · simp only [if_true, hq, if_false] at k
      refine wp_aload_n (pc := 23) (i := 0) dX6_days_23 rfl rfl ?_
      refine wp_gfr (pc := 24) fk_X6_26 dX6_days_24 rfl rfl (by decide) ?_
      refine wp_gfv (pc := 27) fk_X6_158 dX6_days_27 rfl rfl (by first | with_reducible assumption | with_reducible exact hs_same _ _ _ _ | rfl) ?_
      refine wp_iload_n (pc := 30) (i := 1) dX6_days_30 rfl rfl ?_
      first | (with_reducible show WP _ _ _ _ _ _ (Value.int (nI _) :: Value.int (nI _) :: _) _; refine wp_iaddN (pc := 31) dX6_days_31 ?_) | refine wp_iadd (pc := 31) dX6_days_31 ?_
      refine wp_sipush (pc := 32) (v := nI 999) dX6_days_32 rfl ?_
      first | (with_reducible show WP _ _ _ _ _ _ (Value.int (nI _) :: Value.int (nI _) :: _) _; refine wp_icmp_leN (pc := 35) (tgt := 41) dX6_days_35 (by decide) (by omega) (by omega) (fun c35 => ?_) (fun c35 => ?_)) | refine wp_icmp_le (pc := 35) (tgt := 41) dX6_days_35 (by decide) (fun c35 => ?_) (fun c35 => ?_)
      rotate_left
      refine wp_ldc (pc := 38) kn_X6_118 dX6_days_38 ?_
      refine wp_iret (pc := 40) dX6_days_40 rfl ?_
      rotate_left
      · exact absurd c35 (by omega)
      · exact k h H RS.rf
  · rw [fDays, if_neg (of_decide_eq_false c4), c17] at k; exact k h H RS.rf
  · rw [fDays, if_pos (of_decide_eq_true c4)] at k; exact k h H RS.rf
theorem sd_undo {K : Int32 → Hp → Prop} (H : DI h σ) (hO : OKS σ) (k : ∀ h', DI h' (fUndo σ).2 → RS h h' → K (fUndo σ).1 h') : Call G (d + 2) mX6_undo [.ref 0] h (pI K) := by
  refine Call.of (M := mX6_undo) (n := 0) (by decide +kernel) rfl ?_
  show WP _ _ _ _ 0 [some (.ref 0)] [] _
  refine wp_aload_n (pc := 0) (i := 0) dX6_undo_0 rfl rfl ?_
  refine wp_gfr (pc := 1) fk_X6_43 dX6_undo_1 rfl rfl (by decide) ?_
  refine wp_aload_n (pc := 4) (i := 0) dX6_undo_4 rfl rfl ?_
  refine wp_gfr (pc := 5) fk_X6_26 dX6_undo_5 rfl rfl (by decide) ?_
  rotate_left
  rcases List.eq_nil_or_concat (gP σ) with hP | ⟨P, T, hP⟩
  · have hA := H.2.1
    rw [hP] at hA
    rw [fUndo, hP] at k
    refine wp_cV1i (pc := 8) lk_X6_146 dX6_undo_8 rfl rfl rfl (sp_takeBack0 hA ?_)
    first | (with_reducible show WP _ _ _ _ _ _ (Value.int (bI _) :: _) _; refine wp_if_eqB (pc := 11) (tgt := 24) dX6_undo_11 (by decide) (fun c11 => ?_) (fun c11 => ?_)) | (with_reducible show WP _ _ _ _ _ _ (Value.int (nI _) :: _) _; refine wp_if_eqN (pc := 11) (tgt := 24) dX6_undo_11 (by decide) (by omega) (fun c11 => ?_) (fun c11 => ?_)) | refine wp_if_eq (pc := 11) (tgt := 24) dX6_undo_11 (by decide) (fun c11 => ?_) (fun c11 => ?_)
    refine wp_ldc (pc := 24) kn_X6_153 dX6_undo_24 ?_
    refine wp_iret (pc := 26) dX6_undo_26 rfl ?_
    rotate_left
    rotate_left
    · exact k h H RS.rf
    · exact absurd rfl c11
  · have hP : gP σ = P ++ [T] := by rw [hP]; exact List.concat_eq_append
    have hA := H.2.1
    rw [hP] at hA
    have hT := (hO.2.1 P.length T (by rw [hP]; simp)).1
    rw [fUndo, hP, List.getLast?_append] at k
    have k1 : ∀ h', DI h' (upTP σ T P) → RS h h' → K (nI P.length) h' := by
      have e1 : (P ++ [T]).length - 1 = P.length := by simp
      have e2 : (P ++ [T]).dropLast = P := by simp
      rw [e1, e2] at k
      exact k
    refine wp_cV1i (pc := 8) lk_X6_146 dX6_undo_8 rfl rfl rfl (sp_takeBack hA hT.1 (fun h1 hA1 hW1 hf1 => ?_))
    have b2 : h1 53 2 = nI P.length := by obtain ⟨o, -, -, b, -⟩ := hA1; exact b
    first | (with_reducible show WP _ _ _ _ _ _ (Value.int (bI _) :: _) _; refine wp_if_eqB (pc := 11) (tgt := 24) dX6_undo_11 (by decide) (fun c11 => ?_) (fun c11 => ?_)) | (with_reducible show WP _ _ _ _ _ _ (Value.int (nI _) :: _) _; refine wp_if_eqN (pc := 11) (tgt := 24) dX6_undo_11 (by decide) (by omega) (fun c11 => ?_) (fun c11 => ?_)) | refine wp_if_eq (pc := 11) (tgt := 24) dX6_undo_11 (by decide) (fun c11 => ?_) (fun c11 => ?_)
    rotate_left
    refine wp_aload_n (pc := 14) (i := 0) dX6_undo_14 rfl rfl ?_
    refine wp_gfr (pc := 15) fk_X6_43 dX6_undo_15 rfl rfl (by decide) ?_
    refine wp_gfv (pc := 18) fk_X6_150 dX6_undo_18 rfl rfl (by first | with_reducible assumption | with_reducible exact hs_same _ _ _ _ | rfl) ?_
    refine wp_goto (pc := 21) (tgt := 26) dX6_undo_21 (by decide) ?_
    refine wp_iret (pc := 26) dX6_undo_26 rfl ?_
    rotate_left
    · exact absurd c11 (by decide)
    · exact k1 h1 (H.acts hW1 hA1 (fun a ha => hf1 a (by omega))) (fun a ha => hf1 a (by omega))
theorem shp_img {j : Nat} (hj : j < 2) : shp[80 + j]? = some (1, 56, []) := by
  have : ∀ j, j < 2 → shp[80 + j]? = some (1, 56, []) := by decide +kernel
  exact this j hj
theorem sd_image {x : Int32} {K : Int32 → Hp → Prop} (H : DI h σ) (hO : OKT (gT σ)) (k : ∀ h', DI h' (fImage σ x).2 → RS h h' → K (fImage σ x).1 h') : Call G (d + 2) mX6_image [.ref 0, .int x] h (pI K) := by
  have hW := H.1
  refine Call.of (M := mX6_image) (n := 0) (by decide +kernel) rfl ?_
  show WP _ _ _ _ 0 [some (.ref 0), some (.int x)] [] _
  refine wp_iload_n (pc := 0) (i := 1) dX6_image_0 rfl rfl ?_
  refine wp_iconst (pc := 1) (v := nI 0) dX6_image_1 rfl ?_
  refine wp_iconst (pc := 2) (v := nI 1) dX6_image_2 rfl ?_
  refine wp_cS3i (pc := 3) lk_X6_74 dX6_image_3 rfl (sp_btw (by decide) (by decide) ?_)
  first | (with_reducible show WP _ _ _ _ _ _ (Value.int (bI _) :: _) _; refine wp_if_neB (pc := 6) (tgt := 12) dX6_image_6 (by decide) (fun c6 => ?_) (fun c6 => ?_)) | (with_reducible show WP _ _ _ _ _ _ (Value.int (nI _) :: _) _; refine wp_if_neN (pc := 6) (tgt := 12) dX6_image_6 (by decide) (by omega) (fun c6 => ?_) (fun c6 => ?_)) | refine wp_if_ne (pc := 6) (tgt := 12) dX6_image_6 (by decide) (fun c6 => ?_) (fun c6 => ?_)
  refine wp_aload_n (pc := 12) (i := 0) dX6_image_12 rfl rfl ?_
  refine wp_cV0i (pc := 13) lk_X6_154 dX6_image_13 rfl rfl rfl (sp_noTown hW hO ?_)
  first | (with_reducible show WP _ _ _ _ _ _ (Value.int (bI _) :: _) _; refine wp_if_eqB (pc := 16) (tgt := 22) dX6_image_16 (by decide) (fun c16 => ?_) (fun c16 => ?_)) | (with_reducible show WP _ _ _ _ _ _ (Value.int (nI _) :: _) _; refine wp_if_eqN (pc := 16) (tgt := 22) dX6_image_16 (by decide) (by omega) (fun c16 => ?_) (fun c16 => ?_)) | refine wp_if_eq (pc := 16) (tgt := 22) dX6_image_16 (by decide) (fun c16 => ?_) (fun c16 => ?_)
  rotate_left
  refine wp_ldc (pc := 19) kn_X6_153 dX6_image_19 ?_
  refine wp_iret (pc := 21) dX6_image_21 rfl ?_
  rotate_left
  refine wp_ldc (pc := 9) kn_X6_78 dX6_image_9 ?_
  refine wp_iret (pc := 11) dX6_image_11 rfl ?_
  rotate_left
  · have c16 := of_decide_eq_false c16
    rw [fImage, c6, if_neg c16] at k
    obtain ⟨m, -, hm, rfl⟩ := btw_t (by decide) c6
    rw [nI_clamp (show m < 2 ^ 31 by omega)] at k
    have hsr := shp_img (show m < 2 by omega)
    refine wp_aload_n (pc := 22) (i := 0) dX6_image_22 rfl rfl ?_
    refine wp_gfr (pc := 23) fk_X6_26 dX6_image_23 rfl rfl (by decide) ?_
    refine wp_aload_n (pc := 26) (i := 0) dX6_image_26 rfl rfl ?_
    refine wp_gfr (pc := 27) fk_X6_49 dX6_image_27 rfl rfl (by decide) ?_
    refine wp_iload_n (pc := 30) (i := 1) dX6_image_30 rfl rfl ?_
    refine wp_aaldN (pc := 31) dX6_image_31 rfl (by omega) (by decide) ?_
    refine wp_cV1v (pc := 32) lk_X6_133 dX6_image_32 rfl rfl rfl (sp_save isT_27 hsr (by omega) (fun h1 s1 => ?_))
    refine wp_aload_n (pc := 35) (i := 0) dX6_image_35 rfl rfl ?_
    refine wp_gfr (pc := 36) fk_X6_52 dX6_image_36 rfl rfl (by decide) ?_
    refine wp_iload_n (pc := 39) (i := 1) dX6_image_39 rfl rfl ?_
    refine wp_iconst (pc := 40) (v := nI 1) dX6_image_40 rfl ?_
    first | (with_reducible show WP _ _ _ _ _ _ (_ :: Value.int (nI _) :: _) _; refine wp_bastN (pc := 41) dX6_image_41 rfl (by omega) rfl ?_) | refine wp_bast (pc := 41) dX6_image_41 rfl (by assumption) rfl rfl ?_
    refine wp_iconst (pc := 42) (v := nI 1) dX6_image_42 rfl ?_
    refine wp_iret (pc := 43) dX6_image_43 rfl ?_
    rotate_left
    refine k _ ?_ (fun a ha => by rw [hs_ne (by omega)]; exact s1.1 a (by omega))
    obtain ⟨a, b, c, f, f2, g1, g2, k9⟩ := H
    have n : ∀ q, q < 80 ∨ 82 < q → hs h1 82 m (nI 1) q = h q := fun q hq => by rw [hs_ne (by omega)]; exact s1.1 q (by omega)
    refine ⟨a.cg2 (fun q _ _ => n q (by omega)), b.cg (fun q _ _ => n q (by omega)), fun q hq => ?_, f.cg (fun q _ _ => n q (by omega)), f2.cg (by rw [n 13 (by omega)]) (n 14 (by omega)), by rw [n 0 (by omega)]; exact g1, by rw [n 0 (by omega)]; exact g2, k9.cg (n 83 (by omega)) (n 84 (by omega))⟩
    show dG _ q (if q = m then some (gT σ) else gIm σ q)
    by_cases z : q = m
    · rw [if_pos z, z]
      exact ⟨hs_same _ _ _ _, (s1.pg hW hO).cg (hs_ne (by omega))⟩
    · rw [if_neg z]
      have := c q hq
      cases hI : gIm σ q with
      | none => rw [hI] at this; show hs h1 82 m (nI 1) 82 q = _; rw [hs_ix z, s1.1 82 (by omega)]; exact this
      | some T => rw [hI] at this; exact ⟨by rw [hs_ix z, s1.1 82 (by omega)]; exact this.1, this.2.cg (by rw [hs_ne (by omega), s1.1 _ (by omega)])⟩
  · rw [fImage, c6, if_pos (of_decide_eq_true c16)] at k; exact k h H RS.rf
  · rw [fImage, c6] at k; exact k h H RS.rf
theorem sd_restore {x : Int32} {K : Int32 → Hp → Prop} (H : DI h σ) (hO : OKS σ) (k : ∀ h', DI h' (fRestore σ x).2 → RS h h' → K (fRestore σ x).1 h') : Call G (d + 2) mX6_restore [.ref 0, .int x] h (pI K) := by
  refine Call.of (M := mX6_restore) (n := 0) (by decide +kernel) rfl ?_
  show WP _ _ _ _ 0 [some (.ref 0), some (.int x)] [] _
  refine wp_iload_n (pc := 0) (i := 1) dX6_restore_0 rfl rfl ?_
  refine wp_iconst (pc := 1) (v := nI 0) dX6_restore_1 rfl ?_
  refine wp_iconst (pc := 2) (v := nI 1) dX6_restore_2 rfl ?_
  refine wp_cS3i (pc := 3) lk_X6_74 dX6_restore_3 rfl (sp_btw (by decide) (by decide) ?_)
  first | (with_reducible show WP _ _ _ _ _ _ (Value.int (bI _) :: _) _; refine wp_if_neB (pc := 6) (tgt := 12) dX6_restore_6 (by decide) (fun c6 => ?_) (fun c6 => ?_)) | (with_reducible show WP _ _ _ _ _ _ (Value.int (nI _) :: _) _; refine wp_if_neN (pc := 6) (tgt := 12) dX6_restore_6 (by decide) (by omega) (fun c6 => ?_) (fun c6 => ?_)) | refine wp_if_ne (pc := 6) (tgt := 12) dX6_restore_6 (by decide) (fun c6 => ?_) (fun c6 => ?_)
  rotate_left
  refine wp_ldc (pc := 9) kn_X6_78 dX6_restore_9 ?_
  refine wp_iret (pc := 11) dX6_restore_11 rfl ?_
  rotate_left
  rotate_left
  · rw [fRestore, c6] at k; exact k h H RS.rf
  rw [fRestore, c6] at k
  obtain ⟨m, -, hm, rfl⟩ := btw_t (by decide) c6
  rw [nI_clamp (show m < 2 ^ 31 by omega)] at k
  have hI := H.2.2.1 m (by omega)
  cases hc : gIm σ m with
  | none =>
    rw [hc] at hI k
    have e : h 82 m = nI 0 := hI
    refine wp_aload_n (pc := 12) (i := 0) dX6_restore_12 rfl rfl ?_
    refine wp_gfr (pc := 13) fk_X6_52 dX6_restore_13 rfl rfl (by decide) ?_
    refine wp_iload_n (pc := 16) (i := 1) dX6_restore_16 rfl rfl ?_
    first | (with_reducible show WP _ _ _ _ _ _ (Value.int (nI _) :: _) _; refine wp_baldN (pc := 17) dX6_restore_17 rfl (by omega) (by first | with_reducible assumption | with_reducible exact hs_same _ _ _ _ | rfl) ?_) | refine wp_bald (pc := 17) dX6_restore_17 rfl (by assumption) rfl ?_
    first | (with_reducible show WP _ _ _ _ _ _ (Value.int (bI _) :: _) _; refine wp_if_neB (pc := 18) (tgt := 24) dX6_restore_18 (by decide) (fun c18 => ?_) (fun c18 => ?_)) | (with_reducible show WP _ _ _ _ _ _ (Value.int (nI _) :: _) _; refine wp_if_neN (pc := 18) (tgt := 24) dX6_restore_18 (by decide) (by omega) (fun c18 => ?_) (fun c18 => ?_)) | refine wp_if_ne (pc := 18) (tgt := 24) dX6_restore_18 (by decide) (fun c18 => ?_) (fun c18 => ?_)
    rotate_left
    refine wp_ldc (pc := 21) kn_X6_153 dX6_restore_21 ?_
    refine wp_iret (pc := 23) dX6_restore_23 rfl ?_
    rotate_left
    · exact absurd rfl c18
    · exact k h H RS.rf
  | some T =>
    rw [hc] at hI k
    have e : h 82 m = nI 1 := hI.1
    have hT := (hO.2.2.1 m T hc).1
    have hsr := shp_img (show m < 2 by omega)
    refine wp_aload_n (pc := 12) (i := 0) dX6_restore_12 rfl rfl ?_
    refine wp_gfr (pc := 13) fk_X6_52 dX6_restore_13 rfl rfl (by decide) ?_
    refine wp_iload_n (pc := 16) (i := 1) dX6_restore_16 rfl rfl ?_
    first | (with_reducible show WP _ _ _ _ _ _ (Value.int (nI _) :: _) _; refine wp_baldN (pc := 17) dX6_restore_17 rfl (by omega) (by first | with_reducible assumption | with_reducible exact hs_same _ _ _ _ | rfl) ?_) | refine wp_bald (pc := 17) dX6_restore_17 rfl (by assumption) rfl ?_
    first | (with_reducible show WP _ _ _ _ _ _ (Value.int (bI _) :: _) _; refine wp_if_neB (pc := 18) (tgt := 24) dX6_restore_18 (by decide) (fun c18 => ?_) (fun c18 => ?_)) | (with_reducible show WP _ _ _ _ _ _ (Value.int (nI _) :: _) _; refine wp_if_neN (pc := 18) (tgt := 24) dX6_restore_18 (by decide) (by omega) (fun c18 => ?_) (fun c18 => ?_)) | refine wp_if_ne (pc := 18) (tgt := 24) dX6_restore_18 (by decide) (fun c18 => ?_) (fun c18 => ?_)
    refine wp_aload_n (pc := 24) (i := 0) dX6_restore_24 rfl rfl ?_
    refine wp_gfr (pc := 25) fk_X6_26 dX6_restore_25 rfl rfl (by decide) ?_
    refine wp_aload_n (pc := 28) (i := 0) dX6_restore_28 rfl rfl ?_
    refine wp_gfr (pc := 29) fk_X6_49 dX6_restore_29 rfl rfl (by decide) ?_
    refine wp_iload_n (pc := 32) (i := 1) dX6_restore_32 rfl rfl ?_
    refine wp_aaldN (pc := 33) dX6_restore_33 rfl (by omega) (by decide) ?_
    refine wp_cV1v (pc := 34) lk_X6_137 dX6_restore_34 rfl rfl rfl (sp_load isT_27 hsr (by omega) (fun h1 s1 => ?_))
    refine wp_aload_n (pc := 37) (i := 0) dX6_restore_37 rfl rfl ?_
    refine wp_gfr (pc := 38) fk_X6_43 dX6_restore_38 rfl rfl (by decide) ?_
    refine wp_cV0v (pc := 41) lk_X6_140 dX6_restore_41 rfl rfl rfl (sp_forget ?_)
    refine wp_iconst (pc := 44) (v := nI 1) dX6_restore_44 rfl ?_
    refine wp_iret (pc := 45) dX6_restore_45 rfl ?_
    rotate_left
    rotate_left
    · refine k _ ?_ (fun a ha => by rw [hs_ne (by omega)]; exact s1.1 a (by omega))
      obtain ⟨o, ho, a1, a2, a3, a4⟩ := H.2.1
      refine H.acts ((s1.tw hI.2 hT.1).cg2 (fun q _ _ => hs_ne (by omega))) ⟨o, ho, ?_, hs_same _ _ _ _, by decide, fun j Tj hj => by simp at hj⟩ (fun a ha => by rw [hs_ne (by omega)]; exact s1.1 a (by omega))
      rw [hs_ix (by decide), s1.1 53 (by omega)]; exact a1
    · exact absurd c18 (by decide)
end DACTS2
