def upBF (σ : Sg) (w : Nat) : Sg := (gT σ, gP σ, gIm σ, gR σ, [], w, gS σ, gK σ)
def upTB (σ : Sg) (T : Tn) : Sg := (T, [], gIm σ, gR σ, [], gF σ, gS σ, gK σ)
def fTown (σ : Sg) : Int32 × Sg := match rTown (gB σ) with
  | .inl (w, a) => (kFAULT - nI a, upBF σ w)
  | .inr (T, _) => (nI (T 1), upTB σ T)
section DTOWN
variable {G : Gt} {d : Nat} {h : Hp} {B : List Nat} {σ : Sg}
theorem DB_nil {h : Hp} (e : h 13 1 = nI 0) : DB h [] := ⟨e, fun i b hb => by simp at hb⟩
theorem sp_readAll {K : Int32 → Hp → Prop} (hD : DB h B) (hB : OB B) (hz : h 15 4 = nI 0)
    (kO : ∀ h' T' a', rTown B = rok T' a' → PT T' → 0 < T' 0 → 0 < T' 1 → TW h' 15 T' → DB h' [] → FD h h' → K (nI 0) h')
    (kF : ∀ h' w a', rTown B = rno w a' → ¬ w = 0 → w ≤ 3 → a' ≤ 100 → DB h' [] → h' 13 2 = nI a' → FD h h' → K (nI w) h') : Call G (d + 3) mX2_readAll [.ref 13] h (pI K) := by
  have l := hB.1
  refine Call.of (M := mX2_readAll) (n := 0) (by decide +kernel) rfl ?_
  show WP _ _ _ _ 0 [some (.ref 13)] [] _
  have fin : ∀ h1 w a', rTown B = rno w a' → ¬ w = 0 → w ≤ 3 → a' ≤ B.length → RX h1 B w a' → FD h h1 → WP G (d + 3) mX2_readAll (pI K) 43 [some (.ref 13)] [] h1 := by
    intro h1 w a' e w0 w3 ha' hX1 hF1
    obtain ⟨⟨b1, b2⟩, x1, x2, x3⟩ := id hX1
    rw [if_neg w0] at x3
    have x2' : hs h1 13 1 (nI 0) 13 5 = nI w := by rw [hs_ix (by decide)]; exact x2
    refine wp_aload_n (pc := 43) (i := 0) dX2_readAll_43 rfl rfl ?_
    refine wp_iconst (pc := 44) (v := nI 0) dX2_readAll_44 rfl ?_
    refine wp_pf (pc := 45) fp_X2_22 dX2_readAll_45 rfl rfl rfl rfl ?_
    refine wp_aload_n (pc := 48) (i := 0) dX2_readAll_48 rfl rfl ?_
    refine wp_gfv (pc := 49) fk_X2_29 dX2_readAll_49 rfl rfl (by first | with_reducible assumption | with_reducible exact hs_same _ _ _ _ | rfl) ?_
    refine wp_iret (pc := 52) dX2_readAll_52 rfl ?_
    rotate_left
    refine kF _ w a' e w0 w3 (by omega) (DB_nil (hs_same _ _ _ _)) ?_ (hF1.hs (by omega))
    rw [hs_ix (by decide)]; exact x3
  have finO : ∀ h1 T' a', rTown B = rok T' a' → PT T' → 0 < T' 0 → 0 < T' 1 → RX h1 B 0 a' → TW h1 15 T' → FD h h1 → WP G (d + 3) mX2_readAll (pI K) 43 [some (.ref 13)] [] h1 := by
    intro h1 T' a' e hP h0 h1' hX1 hW1 hF1
    obtain ⟨⟨b1, b2⟩, x1, x2, x3⟩ := id hX1
    have x2' : hs h1 13 1 (nI 0) 13 5 = nI 0 := by rw [hs_ix (by decide)]; exact x2
    refine wp_aload_n (pc := 43) (i := 0) dX2_readAll_43 rfl rfl ?_
    refine wp_iconst (pc := 44) (v := nI 0) dX2_readAll_44 rfl ?_
    refine wp_pf (pc := 45) fp_X2_22 dX2_readAll_45 rfl rfl rfl rfl ?_
    refine wp_aload_n (pc := 48) (i := 0) dX2_readAll_48 rfl rfl ?_
    refine wp_gfv (pc := 49) fk_X2_29 dX2_readAll_49 rfl rfl (by first | with_reducible assumption | with_reducible exact hs_same _ _ _ _ | rfl) ?_
    refine wp_iret (pc := 52) dX2_readAll_52 rfl ?_
    rotate_left
    exact kO _ T' a' e hP h0 h1' (hW1.cg2 (fun a _ _ => hs_ne (by omega))) (DB_nil (hs_same _ _ _ _)) (hF1.hs (by omega))
  obtain ⟨b1, b2⟩ := id hD
  refine wp_aload_n (pc := 0) (i := 0) dX2_readAll_0 rfl rfl ?_
  refine wp_iconst (pc := 1) (v := nI 0) dX2_readAll_1 rfl ?_
  refine wp_pf (pc := 2) fp_X2_26 dX2_readAll_2 rfl rfl rfl rfl ?_
  refine wp_aload_n (pc := 5) (i := 0) dX2_readAll_5 rfl rfl ?_
  refine wp_iconst (pc := 6) (v := nI 0) dX2_readAll_6 rfl ?_
  refine wp_pf (pc := 7) fp_X2_29 dX2_readAll_7 rfl rfl rfl rfl ?_
  refine wp_aload_n (pc := 10) (i := 0) dX2_readAll_10 rfl rfl ?_
  refine wp_iconst (pc := 11) (v := nI 0) dX2_readAll_11 rfl ?_
  refine wp_pf (pc := 12) fp_X2_32 dX2_readAll_12 rfl rfl rfl rfl ?_
  refine wp_aload_n (pc := 15) (i := 0) dX2_readAll_15 rfl rfl ?_
  refine wp_gfr (pc := 16) fk_X2_12 dX2_readAll_16 rfl rfl (by decide) ?_
  refine wp_iconst (pc := 19) (v := nI 0) dX2_readAll_19 rfl ?_
  refine wp_pf (pc := 20) fp_X2_35 dX2_readAll_20 rfl rfl rfl rfl ?_
  refine wp_aload_n (pc := 23) (i := 0) dX2_readAll_23 rfl rfl ?_
  refine wp_gfr (pc := 24) fk_X2_12 dX2_readAll_24 rfl rfl (by decide) ?_
  refine wp_iconst (pc := 27) (v := nI 0) dX2_readAll_27 rfl ?_
  refine wp_pf (pc := 28) fp_X2_38 dX2_readAll_28 rfl rfl rfl rfl ?_
  rotate_left
  have hX0 : RX (hs (hs (hs (hs (hs h 13 4 (nI 0)) 13 5 (nI 0)) 13 2 (nI 0)) 15 2 (nI 0)) 15 3 (nI 0)) B 0 0 := by
    refine rx_15 (rx_15 ⟨⟨?_, fun i b hb => ?_⟩, ?_, ?_, ?_⟩)
    · rw [hs_ix (by decide), hs_ix (by decide), hs_ix (by decide)]; exact b1
    · rw [hs_ne (by decide), hs_ne (by decide), hs_ne (by decide)]; exact b2 i b hb
    · rw [hs_ix (by decide), hs_ix (by decide)]; exact hs_same _ _ _ _
    · rw [hs_ix (by decide)]; exact hs_same _ _ _ _
    · exact hs_same _ _ _ _
  have z4 : hs (hs (hs (hs (hs h 13 4 (nI 0)) 13 5 (nI 0)) 13 2 (nI 0)) 15 2 (nI 0)) 15 3 (nI 0) 15 4 = nI 0 := by
    rw [hs_ix (by decide), hs_ix (by decide), hs_ne (by decide), hs_ne (by decide), hs_ne (by decide)]; exact hz
  have z3 : hs (hs (hs (hs (hs h 13 4 (nI 0)) 13 5 (nI 0)) 13 2 (nI 0)) 15 2 (nI 0)) 15 3 (nI 0) 15 3 = nI 0 := hs_same _ _ _ _
  have z2 : hs (hs (hs (hs (hs h 13 4 (nI 0)) 13 5 (nI 0)) 13 2 (nI 0)) 15 2 (nI 0)) 15 3 (nI 0) 15 2 = nI 0 := by rw [hs_ix (by decide)]; exact hs_same _ _ _ _
  have F0 : FD h (hs (hs (hs (hs (hs h 13 4 (nI 0)) 13 5 (nI 0)) 13 2 (nI 0)) 15 2 (nI 0)) 15 3 (nI 0)) := (((((FD.rf h).hs (by omega)).hs (by omega)).hs (by omega)).hs (by omega)).hs (by omega)
  generalize hs (hs (hs (hs (hs h 13 4 (nI 0)) 13 5 (nI 0)) 13 2 (nI 0)) 15 2 (nI 0)) 15 3 (nI 0) = h0 at *
  have fl : ∀ h1, FL h0 h1 → FD h h1 := fun h1 q => F0.tr ⟨fun p hp => q.1 p (by omega) (by omega), q.2 4 (by omega)⟩
  refine wp_aload_n (pc := 31) (i := 0) dX2_readAll_31 rfl rfl ?_
  refine wp_cV0v (pc := 32) lk_X2_41 dX2_readAll_32 rfl rfl rfl (sp_readLaw hX0 hB (fun h1 e p a' q1 q2 q3 q4 q5 q6 q7 q8 => ?_) (fun h1 w a' q1 q2 q3 q4 q5 q6 => ?_))
  rotate_left
  · refine wp_aload_n (pc := 35) (i := 0) dX2_readAll_35 rfl rfl ?_
    refine wp_cV0v (pc := 36) lk_X2_44 dX2_readAll_36 rfl rfl rfl (sp_readChildrenF q5 hB q4 q3 q2 ?_)
    refine wp_aload_n (pc := 39) (i := 0) dX2_readAll_39 rfl rfl ?_
    refine wp_cV0v (pc := 40) lk_X2_47 dX2_readAll_40 rfl rfl rfl (sp_readGransF q5 hB q4 q3 q2 ?_)
    rotate_left
    exact fin h1 w a' (q1 _) q2 q3 q4 q5 (fl h1 q6)
  have t0 : up (up zT 2 e) 3 p 0 = 0 := rfl
  have t1 : up (up zT 2 e) 3 p 1 = 0 := rfl
  have tw : TW h1 15 (up (up zT 2 e) 3 p) := by
    refine ⟨q6, q7, (q8.2 2 (by omega)).trans z2, (q8.2 3 (by omega)).trans z3, (q8.2 4 (by omega)).trans z4, fun c hc => ?_, fun c hc => ?_, fun c hc => ?_, fun c hc => ?_, fun c hc => ?_, fun c hc => ?_, fun c hc => ?_, fun c hc => ?_, fun c hc => ?_⟩
    all_goals first | (rw [t0] at hc; exact absurd hc (by omega)) | (rw [t1] at hc; exact absurd hc (by omega))
  have q1 : rTown B = _ := q1 (fun T a => if B[a]? = some 99 then rChs B (rGrs1 B) 5 T a else rno 1 a)
  refine wp_aload_n (pc := 35) (i := 0) dX2_readAll_35 rfl rfl ?_
  refine wp_cV0v (pc := 36) lk_X2_44 dX2_readAll_36 rfl rfl rfl (sp_readChildren q5 hB q4 tw (PT.law q2 q3) t0 t1 (fun h2 T2 a2 r1 r2 r3 r4 r5 r6 r7 r8 => ?_) (fun h2 w a2 r1 r2 r3 r4 r5 r6 => ?_))
  rotate_left
  · refine wp_aload_n (pc := 39) (i := 0) dX2_readAll_39 rfl rfl ?_
    refine wp_cV0v (pc := 40) lk_X2_47 dX2_readAll_40 rfl rfl rfl (sp_readGransF r5 hB r4 r3 r2 ?_)
    rotate_left
    exact fin h2 w a2 (q1.trans (r1 _)) r2 r3 r4 r5 ((fl h1 q8).tr r6)
  refine wp_aload_n (pc := 39) (i := 0) dX2_readAll_39 rfl rfl ?_
  refine wp_cV0v (pc := 40) lk_X2_47 dX2_readAll_40 rfl rfl rfl (sp_readGrans r6 hB r5 r7 r2 r3 r4 (fun h3 T3 a3 s1 s2 s3 s4 s5 s6 s7 s8 => ?_) (fun h3 w a3 s1 s2 s3 s4 s5 s6 => ?_))
  rotate_left
  · exact fin h3 w a3 ((q1.trans (r1 _)).trans s1) s2 s3 s4 s5 (((fl h1 q8).tr r8).tr s6)
  · exact finO h3 T3 a3 ((q1.trans (r1 _)).trans s1) s2 s3 s4 s6 s7 (((fl h1 q8).tr r8).tr s8)
theorem sd_town {K : Int32 → Hp → Prop} (H : DI h σ) (hO : OKS σ) (hz : h 15 4 = nI 0)
    (k1 : ∀ w a, rTown (gB σ) = rno w a → w ≤ 3 → ∀ h', DI h' (upBF σ w) → (∀ q, 88 < q → h' q = h q) → h' 15 4 = nI 0 → K (kFAULT - nI a) h')
    (k2 : ∀ T a, rTown (gB σ) = rok T a → OKP T → 0 < T 1 → ∀ h', DI h' (upTB σ T) → (∀ q, 88 < q → h' q = h q) → h' 15 4 = nI 0 → K (nI (T 1)) h') : Call G (d + 4) mX6_town [.ref 0] h (pI K) := by
  obtain ⟨a1, a2, a3, a4, a5, a6, a7, a8⟩ := id H
  have hB : OB (gB σ) := hO.2.2.2.2.1
  refine Call.of (M := mX6_town) (n := 1) (by decide +kernel) rfl ?_
  show WP _ _ _ _ 0 [some (.ref 0), none] [] _
  refine wp_aload_n (pc := 0) (i := 0) dX6_town_0 rfl rfl ?_
  refine wp_gfr (pc := 1) fk_X6_19 dX6_town_1 rfl rfl (by decide) ?_
  refine wp_cV0i (pc := 4) lk_X6_119 dX6_town_4 rfl rfl rfl (sp_readAll a5 hB hz (fun h1 T a e hP t0 t1 hW1 hD1 hF1 => ?_) (fun h1 w a e w0 w3 ha hD1 hp hF1 => ?_))
  rotate_left
  · have hp' : hs h1 0 11 (nI w) 13 2 = nI a := by rw [hs_ne (by decide)]; exact hp
    refine wp_istore_n (pc := 7) (i := 1) dX6_town_7 rfl rfl (by decide) rfl ?_
    dsimp only [List.set_cons_zero, List.set_cons_succ]
    refine wp_iload_n (pc := 8) (i := 1) dX6_town_8 rfl rfl ?_
    first | (with_reducible show WP _ _ _ _ _ _ (Value.int (bI _) :: _) _; refine wp_if_eqB (pc := 9) (tgt := 28) dX6_town_9 (by decide) (fun c9 => ?_) (fun c9 => ?_)) | (with_reducible show WP _ _ _ _ _ _ (Value.int (nI _) :: _) _; refine wp_if_eqN (pc := 9) (tgt := 28) dX6_town_9 (by decide) (by omega) (fun c9 => ?_) (fun c9 => ?_)) | refine wp_if_eq (pc := 9) (tgt := 28) dX6_town_9 (by decide) (fun c9 => ?_) (fun c9 => ?_)
    rotate_left
    refine wp_aload_n (pc := 12) (i := 0) dX6_town_12 rfl rfl ?_
    refine wp_iload_n (pc := 13) (i := 1) dX6_town_13 rfl rfl ?_
    refine wp_pf (pc := 14) fp_X6_123 dX6_town_14 rfl rfl rfl rfl ?_
    refine wp_ldc (pc := 17) kn_X6_126 dX6_town_17 ?_
    refine wp_aload_n (pc := 19) (i := 0) dX6_town_19 rfl rfl ?_
    refine wp_gfr (pc := 20) fk_X6_19 dX6_town_20 rfl rfl (by decide) ?_
    refine wp_gfv (pc := 23) fk_X6_127 dX6_town_23 rfl rfl (by first | with_reducible assumption | with_reducible exact hs_same _ _ _ _ | rfl) ?_
    first | (with_reducible show WP _ _ _ _ _ _ (Value.int (nI _) :: Value.int (nI _) :: _) _; refine wp_isubN (pc := 26) dX6_town_26 (by omega) ?_) | refine wp_isub (pc := 26) dX6_town_26 ?_
    refine wp_iret (pc := 27) dX6_town_27 rfl ?_
    rotate_left
    · exact absurd c9 w0
    refine k1 w a e w3 _ ⟨?_, ?_, ?_, ?_, ?_, hs_same _ _ _ _, ?_, ?_⟩ (fun q hq => by rw [hs_ne (by omega), hF1.1 q (by omega)]) (by rw [hs_ne (by decide), hF1.2]; exact hz)
    · exact a1.cg2 (fun q _ _ => by rw [hs_ne (by omega), hF1.1 q (by omega)])
    · exact a2.cg (fun q _ _ => by rw [hs_ne (by omega), hF1.1 q (by omega)])
    · exact a3.cg (fun q _ _ => by rw [hs_ne (by omega), hF1.1 q (by omega)])
    · exact a4.cg (fun q _ _ => by rw [hs_ne (by omega), hF1.1 q (by omega)])
    · exact hD1.cg (by rw [hs_ne (by decide)]) (hs_ne (by decide))
    · rw [hs_ix (by decide), hF1.1 0 (by omega)]; exact a7
    · exact a8.cg (by rw [hs_ne (by decide), hF1.1 83 (by omega)]) (by rw [hs_ne (by decide), hF1.1 84 (by omega)])
  · have ok := hP.okt t0
    have t4 := hP.2.2.2.2.1
    refine wp_istore_n (pc := 7) (i := 1) dX6_town_7 rfl rfl (by decide) rfl ?_
    dsimp only [List.set_cons_zero, List.set_cons_succ]
    refine wp_iload_n (pc := 8) (i := 1) dX6_town_8 rfl rfl ?_
    first | (with_reducible show WP _ _ _ _ _ _ (Value.int (bI _) :: _) _; refine wp_if_eqB (pc := 9) (tgt := 28) dX6_town_9 (by decide) (fun c9 => ?_) (fun c9 => ?_)) | (with_reducible show WP _ _ _ _ _ _ (Value.int (nI _) :: _) _; refine wp_if_eqN (pc := 9) (tgt := 28) dX6_town_9 (by decide) (by omega) (fun c9 => ?_) (fun c9 => ?_)) | refine wp_if_eq (pc := 9) (tgt := 28) dX6_town_9 (by decide) (fun c9 => ?_) (fun c9 => ?_)
    refine wp_aload_n (pc := 28) (i := 0) dX6_town_28 rfl rfl ?_
    refine wp_gfr (pc := 29) fk_X6_19 dX6_town_29 rfl rfl (by decide) ?_
    refine wp_gfr (pc := 32) fk_X6_130 dX6_town_32 rfl rfl (by decide) ?_
    refine wp_aload_n (pc := 35) (i := 0) dX6_town_35 rfl rfl ?_
    refine wp_gfr (pc := 36) fk_X6_33 dX6_town_36 rfl rfl (by decide) ?_
    refine wp_cV1v (pc := 39) lk_X6_133 dX6_town_39 rfl rfl rfl (sp_save isT_15 rfl (by decide) (fun h2 s2 => ?_))
    refine wp_aload_n (pc := 42) (i := 0) dX6_town_42 rfl rfl ?_
    refine wp_gfr (pc := 43) fk_X6_26 dX6_town_43 rfl rfl (by decide) ?_
    refine wp_aload_n (pc := 46) (i := 0) dX6_town_46 rfl rfl ?_
    refine wp_gfr (pc := 47) fk_X6_33 dX6_town_47 rfl rfl (by decide) ?_
    refine wp_cV1v (pc := 50) lk_X6_137 dX6_town_50 rfl rfl rfl (sp_load isT_27 rfl (by decide) (fun h3 s3 => ?_))
    refine wp_aload_n (pc := 53) (i := 0) dX6_town_53 rfl rfl ?_
    refine wp_gfr (pc := 54) fk_X6_43 dX6_town_54 rfl rfl (by decide) ?_
    refine wp_cV0v (pc := 57) lk_X6_140 dX6_town_57 rfl rfl rfl (sp_forget ?_)
    rotate_left
    rotate_left
    · have w3 : TW h3 27 T := s3.tw (s2.pg hW1 ok) ok
      have w4 : TW (hs h3 53 2 (nI 0)) 27 T := w3.cg2 (fun a _ _ => hs_ne (by omega))
      have e3 := w4.2.2.2.1
      have fr : ∀ q, q < 13 ∨ q = 14 ∨ (36 < q ∧ q ≠ 51 ∧ q ≠ 53) → hs h3 53 2 (nI 0) q = h q := fun q hq => by rw [hs_ne (by omega), s3.1 q (by omega), s2.1 q (by omega), hF1.1 q (by omega)]
      have f15 : ∀ q, 13 ≤ q → q ≤ 26 → hs h3 53 2 (nI 0) q = h1 q := fun q q1 q2 => by rw [hs_ne (by omega), s3.1 q (by omega), s2.1 q (by omega)]
      refine wp_aload_n (pc := 60) (i := 0) dX6_town_60 rfl rfl ?_
      refine wp_gfr (pc := 61) fk_X6_26 dX6_town_61 rfl rfl (by decide) ?_
      refine wp_gfv (pc := 64) fk_X6_143 dX6_town_64 rfl rfl (by first | with_reducible assumption | with_reducible exact hs_same _ _ _ _ | rfl) ?_
      refine wp_iret (pc := 67) dX6_town_67 rfl ?_
      rotate_left
      refine k2 T a e ⟨ok, by omega⟩ t1 _ ⟨w4, ?_, ?_, ?_, ?_, ?_, ?_, ?_⟩ (fun q hq => fr q (by omega)) (by rw [f15 15 (by omega) (by omega), hF1.2]; exact hz)
      · obtain ⟨o, p1, p2, p3, p4, p5⟩ := a2
        refine ⟨o, p1, ?_, hs_same _ _ _ _, Nat.zero_le _, fun j U hj => by
          have hj : ([] : List Tn)[j]? = some U := hj
          simp at hj⟩
        rw [hs_ix (by decide), s3.1 53 (by omega), s2.1 53 (by omega), hF1.1 53 (by omega)]; exact p2
      · exact a3.cg (fun q _ _ => fr q (by omega))
      · exact a4.cg (fun q _ _ => fr q (by omega))
      · exact hD1.cg (by rw [f15 13 (by omega) (by omega)]) (f15 14 (by omega) (by omega))
      · rw [fr 0 (by omega)]; exact a6
      · rw [fr 0 (by omega)]; exact a7
      · exact a8.cg (fr 83 (by omega)) (fr 84 (by omega))
    · exact absurd rfl c9
end DTOWN
