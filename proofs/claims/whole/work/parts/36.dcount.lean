section DCOUNT
variable {G : Gt} {d : Nat} {h : Hp} {σ : Sg} {T : Tn}
theorem sd_trace {x : Int32} {K : Int32 → Hp → Prop} (H : DI h σ) (hO : OKS σ) (k : K (fTrace σ x) h) : Call G (d + 1) mX6_trace [.ref 0, .int x] h (pI K) := by
  obtain ⟨-, -, -, -, -, -, -, k1, k2⟩ := H
  have hl := hO.2.2.2.2.2.2.2
  refine Call.of (M := mX6_trace) (n := 0) (by decide +kernel) rfl ?_
  show WP _ _ _ _ 0 [some (.ref 0), some (.int x)] [] _
  refine wp_iload_n (pc := 0) (i := 1) dX6_trace_0 rfl rfl ?_
  refine wp_iconst (pc := 1) (v := nI 0) dX6_trace_1 rfl ?_
  refine wp_aload_n (pc := 2) (i := 0) dX6_trace_2 rfl rfl ?_
  refine wp_gfr (pc := 3) fk_X6_59 dX6_trace_3 rfl rfl (by decide) ?_
  refine wp_gfv (pc := 6) fk_X6_313 dX6_trace_6 rfl rfl (by first | with_reducible assumption | with_reducible exact hs_same _ _ _ _ | rfl) ?_
  refine wp_iconst (pc := 9) (v := nI 1) dX6_trace_9 rfl ?_
  rotate_left
  refine wp_isub (pc := 10) dX6_trace_10 ?_
  refine wp_cS3i (pc := 11) lk_X6_74 dX6_trace_11 rfl (sp_within ?_)
  rw [show decide ((nI 0).toInt ≤ x.toInt ∧ x.toInt ≤ (nI (gK σ).length - nI 1).toInt) = inN x (gK σ).length by
    rw [pk_sub_toInt (by omega) (by decide), nI_toInt (by decide)]
    exact decide_eq_decide.mpr (by omega)]
  first | (with_reducible show WP _ _ _ _ _ _ (Value.int (bI _) :: _) _; refine wp_if_eqB (pc := 14) (tgt := 29) dX6_trace_14 (by decide) (fun c14 => ?_) (fun c14 => ?_)) | (with_reducible show WP _ _ _ _ _ _ (Value.int (nI _) :: _) _; refine wp_if_eqN (pc := 14) (tgt := 29) dX6_trace_14 (by decide) (by omega) (fun c14 => ?_) (fun c14 => ?_)) | refine wp_if_eq (pc := 14) (tgt := 29) dX6_trace_14 (by decide) (fun c14 => ?_) (fun c14 => ?_)
  refine wp_ldc (pc := 29) kn_X6_222 dX6_trace_29 ?_
  refine wp_iret (pc := 31) dX6_trace_31 rfl ?_
  rotate_left
  rotate_left
  · rw [fTrace, c14] at k; exact k
  rw [fTrace, c14] at k
  obtain ⟨i, hi, rfl⟩ := inN_t (by omega) c14
  rw [nI_clamp (show i < 2 ^ 31 by omega), List.getD_eq_getElem?_getD, List.getElem?_eq_getElem hi] at k
  have e := k2 i _ (List.getElem?_eq_getElem hi)
  refine wp_aload_n (pc := 17) (i := 0) dX6_trace_17 rfl rfl ?_
  refine wp_gfr (pc := 18) fk_X6_59 dX6_trace_18 rfl rfl (by decide) ?_
  refine wp_gfr (pc := 21) fk_X6_314 dX6_trace_21 rfl rfl (by decide) ?_
  refine wp_iload_n (pc := 24) (i := 1) dX6_trace_24 rfl rfl ?_
  first | (with_reducible show WP _ _ _ _ _ _ (Value.int (nI _) :: _) _; refine wp_ialdN (pc := 25) dX6_trace_25 rfl (by omega) (by first | with_reducible assumption | with_reducible exact hs_same _ _ _ _ | rfl) ?_) | refine wp_iald (pc := 25) dX6_trace_25 rfl (by assumption) rfl ?_
  refine wp_goto (pc := 26) (tgt := 31) dX6_trace_26 (by decide) ?_
  refine wp_iret (pc := 31) dX6_trace_31 rfl ?_
  rotate_left
  exact k
theorem btw_n {x : Int32} (hx : ¬ btw x 0 7 = true) : (∀ j, j ≤ 7 → ¬ x = nI j) ∧ (x.toInt < 0 ∨ 7 < x.toInt) := by
  refine ⟨fun j hj q => hx (decide_eq_true ?_), ?_⟩
  · rw [q, nI_toInt (by omega)]; omega
  · have : ¬ ((0 : Int) ≤ x.toInt ∧ x.toInt ≤ (7 : Int)) := fun q => hx (decide_eq_true q)
    omega
theorem sd_count {x : Int32} {K : Int32 → Hp → Prop} (H : DI h σ) (hO : OKS σ) (k : K (fCount σ x) h) : Call G (d + 2) mX6_count [.ref 0, .int x] h (pI K) := by
  obtain ⟨hW, ⟨o, ho, a1, a2, a3⟩, -, hR, hB, -⟩ := id H
  have hOT := hO.1.1
  have o0 := hOT.1
  have b1 := hB.1
  obtain ⟨e0, e1, e2, e3, e4, e5, e6, e7, e8, e9, e10, e11, e12, e13⟩ := id hW
  have e5 : ∀ q, q < (gT σ) 0 → h 28 q = nI ((gT σ) (5 + q)) := e5
  have e6 : ∀ q, q < (gT σ) 0 → h 29 q = nI ((gT σ) (10 + q)) := e6
  have e7 : ∀ q, q < (gT σ) 0 → h 30 q = nI ((gT σ) (15 + q)) := e7
  have e8 : ∀ q, q < (gT σ) 1 → h 31 q = nI ((gT σ) (20 + q)) := e8
  have e9 : ∀ q, q < (gT σ) 1 → h 32 q = nI ((gT σ) (26 + q)) := e9
  have e10 : ∀ q, q < (gT σ) 1 → h 33 q = nI ((gT σ) (32 + q)) := e10
  have e11 : ∀ q, q < (gT σ) 1 → h 34 q = nI ((gT σ) (38 + q)) := e11
  have e12 : ∀ q, q < (gT σ) 1 → h 35 q = nI ((gT σ) (44 + q)) := e12
  have e13 : ∀ q, q < (gT σ) 1 → h 36 q = nI ((gT σ) (50 + q)) := e13
  refine Call.of (M := mX6_count) (n := 0) (by decide +kernel) rfl ?_
  show WP _ _ _ _ 0 [some (.ref 0), some (.int x)] [] _
  refine wp_iload_n (pc := 0) (i := 1) dX6_count_0 rfl rfl ?_
  rotate_left
  by_cases hx : btw x 0 7 = true
  · obtain ⟨m, -, hm, rfl⟩ := btw_t (by decide) hx
    rcases (show m = 0 ∨ m = 1 ∨ m = 2 ∨ m = 3 ∨ m = 4 ∨ m = 5 ∨ m = 6 ∨ m = 7 by omega) with rfl | rfl | rfl | rfl | rfl | rfl | rfl | rfl
    · rw [fCount, if_pos rfl] at k
      refine wp_tableIn (tgt := 48) dX6_count_1 (by decide) (by decide) rfl (by decide) ?_
      refine wp_aload_n (pc := 48) (i := 0) dX6_count_48 rfl rfl ?_
      refine wp_gfr (pc := 49) fk_X6_10 dX6_count_49 rfl rfl (by decide) ?_
      refine wp_cV0i (pc := 52) lk_X6_317 dX6_count_52 rfl rfl rfl (sp_rowsThere hR (fun r y hy => (hO.2.2.2.1 r y hy).2) ?_)
      refine wp_iret (pc := 55) dX6_count_55 rfl ?_
      rotate_left
      exact k
    · rw [fCount, if_neg (by decide), if_pos rfl] at k
      refine wp_tableIn (tgt := 56) dX6_count_1 (by decide) (by decide) rfl (by decide) ?_
      refine wp_aload_n (pc := 56) (i := 0) dX6_count_56 rfl rfl ?_
      refine wp_gfr (pc := 57) fk_X6_26 dX6_count_57 rfl rfl (by decide) ?_
      refine wp_gfv (pc := 60) fk_X6_260 dX6_count_60 rfl rfl (by first | with_reducible assumption | with_reducible exact hs_same _ _ _ _ | rfl) ?_
      refine wp_iret (pc := 63) dX6_count_63 rfl ?_
      rotate_left
      exact k
    · rw [fCount, if_neg (by decide), if_neg (by decide), if_pos rfl] at k
      refine wp_tableIn (tgt := 64) dX6_count_1 (by decide) (by decide) rfl (by decide) ?_
      refine wp_aload_n (pc := 64) (i := 0) dX6_count_64 rfl rfl ?_
      refine wp_gfr (pc := 65) fk_X6_26 dX6_count_65 rfl rfl (by decide) ?_
      refine wp_gfv (pc := 68) fk_X6_143 dX6_count_68 rfl rfl (by first | with_reducible assumption | with_reducible exact hs_same _ _ _ _ | rfl) ?_
      refine wp_iret (pc := 71) dX6_count_71 rfl ?_
      rotate_left
      exact k
    · rw [fCount, if_neg (by decide), if_neg (by decide), if_neg (by decide), if_pos rfl] at k
      refine wp_tableIn (tgt := 72) dX6_count_1 (by decide) (by decide) rfl (by decide) ?_
      refine wp_aload_n (pc := 72) (i := 0) dX6_count_72 rfl rfl ?_
      refine wp_gfr (pc := 73) fk_X6_26 dX6_count_73 rfl rfl (by decide) ?_
      refine wp_gfv (pc := 76) fk_X6_158 dX6_count_76 rfl rfl (by first | with_reducible assumption | with_reducible exact hs_same _ _ _ _ | rfl) ?_
      refine wp_iret (pc := 79) dX6_count_79 rfl ?_
      rotate_left
      exact k
    · rw [fCount, if_neg (by decide), if_neg (by decide), if_neg (by decide), if_neg (by decide), if_pos rfl] at k
      refine wp_tableIn (tgt := 80) dX6_count_1 (by decide) (by decide) rfl (by decide) ?_
      refine wp_aload_n (pc := 80) (i := 0) dX6_count_80 rfl rfl ?_
      refine wp_gfr (pc := 81) fk_X6_26 dX6_count_81 rfl rfl (by decide) ?_
      refine wp_gfr (pc := 84) fk_X6_203 dX6_count_84 rfl rfl (by decide) ?_
      refine wp_aload_n (pc := 87) (i := 0) dX6_count_87 rfl rfl ?_
      refine wp_gfr (pc := 88) fk_X6_26 dX6_count_88 rfl rfl (by decide) ?_
      refine wp_gfv (pc := 91) fk_X6_260 dX6_count_91 rfl rfl (by first | with_reducible assumption | with_reducible exact hs_same _ _ _ _ | with_reducible exact e5 _ (by omega) | rfl) ?_
      refine wp_cS2i (pc := 94) lk_X6_295 dX6_count_94 rfl (sp_sumOf rfl (by omega) (fun i hi => e5 i hi) (by omega) ?_)
      refine wp_iret (pc := 97) dX6_count_97 rfl ?_
      rotate_left
      exact k
    · rw [fCount, if_neg (by decide), if_neg (by decide), if_neg (by decide), if_neg (by decide), if_neg (by decide), if_pos rfl] at k
      refine wp_tableIn (tgt := 98) dX6_count_1 (by decide) (by decide) rfl (by decide) ?_
      refine wp_aload_n (pc := 98) (i := 0) dX6_count_98 rfl rfl ?_
      refine wp_gfr (pc := 99) fk_X6_26 dX6_count_99 rfl rfl (by decide) ?_
      refine wp_gfr (pc := 102) fk_X6_190 dX6_count_102 rfl rfl (by decide) ?_
      refine wp_aload_n (pc := 105) (i := 0) dX6_count_105 rfl rfl ?_
      refine wp_gfr (pc := 106) fk_X6_26 dX6_count_106 rfl rfl (by decide) ?_
      refine wp_gfv (pc := 109) fk_X6_260 dX6_count_109 rfl rfl (by first | with_reducible assumption | with_reducible exact hs_same _ _ _ _ | with_reducible exact e6 _ (by omega) | rfl) ?_
      refine wp_cS2i (pc := 112) lk_X6_295 dX6_count_112 rfl (sp_sumOf rfl (by omega) (fun i hi => e6 i hi) (by omega) ?_)
      refine wp_iret (pc := 115) dX6_count_115 rfl ?_
      rotate_left
      exact k
    · rw [fCount, if_neg (by decide), if_neg (by decide), if_neg (by decide), if_neg (by decide), if_neg (by decide), if_neg (by decide), if_pos rfl] at k
      refine wp_tableIn (tgt := 116) dX6_count_1 (by decide) (by decide) rfl (by decide) ?_
      refine wp_aload_n (pc := 116) (i := 0) dX6_count_116 rfl rfl ?_
      refine wp_gfr (pc := 117) fk_X6_43 dX6_count_117 rfl rfl (by decide) ?_
      refine wp_gfv (pc := 120) fk_X6_150 dX6_count_120 rfl rfl (by first | with_reducible assumption | with_reducible exact hs_same _ _ _ _ | rfl) ?_
      refine wp_iret (pc := 123) dX6_count_123 rfl ?_
      rotate_left
      exact k
    · rw [fCount, if_neg (by decide), if_neg (by decide), if_neg (by decide), if_neg (by decide), if_neg (by decide), if_neg (by decide), if_neg (by decide), if_pos rfl] at k
      refine wp_tableIn (tgt := 124) dX6_count_1 (by decide) (by decide) rfl (by decide) ?_
      refine wp_aload_n (pc := 124) (i := 0) dX6_count_124 rfl rfl ?_
      refine wp_gfr (pc := 125) fk_X6_19 dX6_count_125 rfl rfl (by decide) ?_
      refine wp_gfv (pc := 128) fk_X6_115 dX6_count_128 rfl rfl (by first | with_reducible assumption | with_reducible exact hs_same _ _ _ _ | rfl) ?_
      refine wp_iret (pc := 131) dX6_count_131 rfl ?_
      rotate_left
      exact k
  · obtain ⟨n, q⟩ := btw_n hx
    rw [fCount, if_neg (n 0 (by omega)), if_neg (n 1 (by omega)), if_neg (n 2 (by omega)), if_neg (n 3 (by omega)), if_neg (n 4 (by omega)), if_neg (n 5 (by omega)), if_neg (n 6 (by omega)), if_neg (n 7 (by omega))] at k
    refine wp_tableOut (tgt := 132) dX6_count_1 q (by decide) ?_
    refine wp_ldc (pc := 132) kn_X6_78 dX6_count_132 ?_
    refine wp_iret (pc := 134) dX6_count_134 rfl ?_
    rotate_left
    exact k
end DCOUNT
