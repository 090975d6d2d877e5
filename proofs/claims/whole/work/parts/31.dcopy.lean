def upB (σ : Sg) (B : List Nat) : Sg := (gT σ, gP σ, gIm σ, gR σ, B, gF σ, gS σ, gK σ)
def fFeed (σ : Sg) (x : Int32) : Int32 × Sg := if btw x 0 255 then (if (gB σ).length < 100 then (nI ((gB σ).length + 1), upB σ (gB σ ++ [x.toNatClampNeg])) else (kFULL, σ)) else (kBAD, σ)
def fTrace (σ : Sg) (x : Int32) : Int32 := if inN x (gK σ).length then nI ((gK σ).getD x.toNatClampNeg 0) else kNONE
def fCount (σ : Sg) (x : Int32) : Int32 :=
  if x = nI 0 then nI (smU (fun r => if (gR σ r).isNone then 0 else 1) 8) else if x = nI 1 then nI (gT σ 0) else if x = nI 2 then nI (gT σ 1) else if x = nI 3 then nI (gT σ 4)
  else if x = nI 4 then nI (smU (fun c => gT σ (5 + c)) (gT σ 0)) else if x = nI 5 then nI (smU (fun c => gT σ (10 + c)) (gT σ 0)) else if x = nI 6 then nI (gP σ).length else if x = nI 7 then nI (gB σ).length else kBAD
section DCOPY
variable {G : Gt} {d : Nat} {h : Hp} {σ : Sg}
theorem sp_move {a b i j n : Nat} {K : Hp → Prop} (ha : a < 8) (hb : b < 8) (h1 : i + n ≤ 40) (h2 : j + n ≤ 40) (k : K (hcp h (3 + a) i (3 + b) j n)) : Call G (d + 1) mX4_move [.ref 1, .int (nI a), .int (nI i), .int (nI b), .int (nI j), .int (nI n)] h (pV K) := by
  refine Call.of (M := mX4_move) (n := 0) (by decide +kernel) rfl ?_
  show WP _ _ _ _ 0 [some (.ref 1), some (.int (nI a)), some (.int (nI i)), some (.int (nI b)), some (.int (nI j)), some (.int (nI n))] [] _
  refine wp_aload_n (pc := 0) (i := 0) dX4_move_0 rfl rfl ?_
  refine wp_gfr (pc := 1) fk_X4_11 dX4_move_1 rfl rfl (by decide) ?_
  refine wp_iload_n (pc := 4) (i := 1) dX4_move_4 rfl rfl ?_
  refine wp_aaldN (pc := 5) dX4_move_5 rfl (by omega) (by decide) ?_
  refine wp_iload_n (pc := 6) (i := 2) dX4_move_6 rfl rfl ?_
  refine wp_aload_n (pc := 7) (i := 0) dX4_move_7 rfl rfl ?_
  refine wp_gfr (pc := 8) fk_X4_11 dX4_move_8 rfl rfl (by decide) ?_
  refine wp_iload_n (pc := 11) (i := 3) dX4_move_11 rfl rfl ?_
  refine wp_aaldN (pc := 12) dX4_move_12 rfl (by omega) (by decide) ?_
  refine wp_iload (pc := 13) (i := 4) dX4_move_13 rfl ?_
  refine wp_iload (pc := 15) (i := 5) dX4_move_15 rfl ?_
  rotate_left
  refine wp_copy (pc := 17) lk_X4_34 dX4_move_17 (shp_row ha) (shp_row hb) (nI_pos (by omega)) (nI_pos (by omega)) (nI_pos (by omega)) (by rw [nI_clamp (by omega), nI_clamp (by omega)]; exact h1) (by rw [nI_clamp (by omega), nI_clamp (by omega)]; exact h2) rfl ?_
  rw [nI_clamp (by omega), nI_clamp (by omega), nI_clamp (by omega)]
  refine wp_vret (pc := 20) dX4_move_20 rfl ?_
  rotate_left
  exact k
theorem spn_t {z : Nat} {i n : Int32} (h : spn z i n = true) : ∃ a b : Nat, a + b ≤ z ∧ a < 2 ^ 31 ∧ b < 2 ^ 31 ∧ i = nI a ∧ n = nI b := by
  have q := of_decide_eq_true h
  obtain ⟨a, ha, rfl⟩ := nI_of (x := i) ((le0_iff i).mpr q.1)
  obtain ⟨b, hb, rfl⟩ := nI_of (x := n) ((le0_iff n).mpr q.2.1)
  rw [nI_toInt ha, nI_toInt hb] at q
  exact ⟨a, b, by omega, ha, hb, rfl, rfl⟩
theorem sd_copy {x i y j n : Int32} {K : Int32 → Hp → Prop} (H : DI h σ) (hO : OKS σ) (k : ∀ h', DI h' (fCopy σ x i y j n).2 → RS h h' → K (fCopy σ x i y j n).1 h') : Call G (d + 2) mX6_copy [.ref 0, .int x, .int i, .int y, .int j, .int n] h (pI K) := by
  refine Call.of (M := mX6_copy) (n := 1) (by decide +kernel) rfl ?_
  show WP _ _ _ _ 0 [some (.ref 0), some (.int x), some (.int i), some (.int y), some (.int j), some (.int n), none] [] _
  refine wp_iload_n (pc := 0) (i := 1) dX6_copy_0 rfl rfl ?_
  refine wp_cS1i (pc := 1) lk_X6_70 dX6_copy_1 rfl (sp_holds ?_)
  first | (with_reducible show WP _ _ _ _ _ _ (Value.int (bI _) :: _) _; refine wp_if_eqB (pc := 4) (tgt := 14) dX6_copy_4 (by decide) (fun c4 => ?_) (fun c4 => ?_)) | (with_reducible show WP _ _ _ _ _ _ (Value.int (nI _) :: _) _; refine wp_if_eqN (pc := 4) (tgt := 14) dX6_copy_4 (by decide) (by omega) (fun c4 => ?_) (fun c4 => ?_)) | refine wp_if_eq (pc := 4) (tgt := 14) dX6_copy_4 (by decide) (fun c4 => ?_) (fun c4 => ?_)
  refine wp_ldc (pc := 14) kn_X6_78 dX6_copy_14 ?_
  refine wp_iret (pc := 16) dX6_copy_16 rfl ?_
  rotate_left
  refine wp_iload_n (pc := 7) (i := 3) dX6_copy_7 rfl rfl ?_
  refine wp_cS1i (pc := 8) lk_X6_70 dX6_copy_8 rfl (sp_holds ?_)
  first | (with_reducible show WP _ _ _ _ _ _ (Value.int (bI _) :: _) _; refine wp_if_neB (pc := 11) (tgt := 17) dX6_copy_11 (by decide) (fun c11 => ?_) (fun c11 => ?_)) | (with_reducible show WP _ _ _ _ _ _ (Value.int (nI _) :: _) _; refine wp_if_neN (pc := 11) (tgt := 17) dX6_copy_11 (by decide) (by omega) (fun c11 => ?_) (fun c11 => ?_)) | refine wp_if_ne (pc := 11) (tgt := 17) dX6_copy_11 (by decide) (fun c11 => ?_) (fun c11 => ?_)
  rotate_left
  refine wp_ldc (pc := 14) kn_X6_78 dX6_copy_14 ?_
  refine wp_iret (pc := 16) dX6_copy_16 rfl ?_
  rotate_left
  · rw [fCopy, c4] at k; exact k h H RS.rf
  rotate_left
  · rw [fCopy, c4, c11] at k; exact k h H RS.rf
  rw [fCopy, c4, c11] at k
  obtain ⟨a, ha, rfl⟩ := inN_t (by decide) c4
  obtain ⟨b, hb, rfl⟩ := inN_t (by decide) c11
  rw [nI_clamp (show a < 2 ^ 31 by omega), nI_clamp (show b < 2 ^ 31 by omega)] at k
  have hx := H.2.2.2.1 a ha
  have hy := H.2.2.2.1 b hb
  have hox := hO.2.2.2.1 a
  have hoy := hO.2.2.2.1 b
  have fnd : ∀ f, f ≤ 5 → f ≠ 0 → (∀ h', DI h' (upS σ f) → RS h h' → K (kFOUND - nI f) h') → WP G (d + 2) mX6_copy (pI K) 33 [some (.ref 0), some (.int (nI a)), some (.int i), some (.int (nI b)), some (.int j), some (.int n), some (.int (nI f))] [] h := by
    intro f hf hf0 k1
    refine wp_iload (pc := 33) (i := 6) dX6_copy_33 rfl ?_
    first | (with_reducible show WP _ _ _ _ _ _ (Value.int (bI _) :: _) _; refine wp_if_eqB (pc := 35) (tgt := 45) dX6_copy_35 (by decide) (fun c35 => ?_) (fun c35 => ?_)) | (with_reducible show WP _ _ _ _ _ _ (Value.int (nI _) :: _) _; refine wp_if_eqN (pc := 35) (tgt := 45) dX6_copy_35 (by decide) (by omega) (fun c35 => ?_) (fun c35 => ?_)) | refine wp_if_eq (pc := 35) (tgt := 45) dX6_copy_35 (by decide) (fun c35 => ?_) (fun c35 => ?_)
    rotate_left
    refine wp_aload_n (pc := 38) (i := 0) dX6_copy_38 rfl rfl ?_
    refine wp_iload (pc := 39) (i := 6) dX6_copy_39 rfl ?_
    refine wp_cV1i (pc := 41) lk_X6_79 dX6_copy_41 rfl rfl rfl (sp_found ?_)
    refine wp_iret (pc := 44) dX6_copy_44 rfl ?_
    rotate_left
    · exact absurd c35 hf0
    · exact k1 _ H.st RS.rf.st
  refine wp_aload_n (pc := 17) (i := 0) dX6_copy_17 rfl rfl ?_
  refine wp_gfr (pc := 18) fk_X6_10 dX6_copy_18 rfl rfl (by decide) ?_
  refine wp_iload_n (pc := 21) (i := 1) dX6_copy_21 rfl rfl ?_
  refine wp_iload_n (pc := 22) (i := 2) dX6_copy_22 rfl rfl ?_
  refine wp_iload_n (pc := 23) (i := 3) dX6_copy_23 rfl rfl ?_
  refine wp_iload (pc := 24) (i := 4) dX6_copy_24 rfl ?_
  refine wp_iload (pc := 26) (i := 5) dX6_copy_26 rfl ?_
  refine wp_cV5i (pc := 28) lk_X6_98 dX6_copy_28 rfl rfl rfl (sp_findingOfMove ha hb hx hy hox hoy ?_)
  refine wp_istore (pc := 31) (i := 6) dX6_copy_31 rfl (by decide) rfl ?_
  dsimp only [List.set_cons_zero, List.set_cons_succ]
  rotate_left
  cases hA : gR σ a with
  | none =>
    rw [hA] at k
    exact fnd 1 (by decide) (by decide) k
  | some u =>
    cases hB : gR σ b with
    | none =>
      rw [hA, hB] at k
      exact fnd 1 (by decide) (by decide) k
    | some v =>
      rw [hA] at hx hox
      rw [hB] at hy hoy
      rw [hA, hB] at k
      have ou := hox u rfl
      have ov := hoy v rfl
      by_cases q1 : u.1 = v.1
      · simp only [Bool.and_self, if_true, not_true, if_neg, q1, if_false, not_false_eq_true, ite_false, not_true_eq_false, ite_true] at k
        by_cases q2 : (spn u.2.1 i n && spn v.2.1 j n) = true
        · have e1 : fin2 (some u) (some v) i j n = 0 := by rw [fin2, if_neg (by simp [q1]), q2]; rfl
          rw [e1]
          rw [q2] at k
          have q3 := (Bool.and_eq_true _ _).mp q2
          obtain ⟨i', n', z1, z2, z3, rfl, rfl⟩ := spn_t q3.1
          have z4 := of_decide_eq_true q3.2
          obtain ⟨j', hj', rfl⟩ := nI_of (x := j) ((le0_iff j).mpr z4.1)
          rw [nI_toInt z3, nI_toInt hj'] at z4
          have k1 : ∀ h', DI h' (upS (upR σ b (some (v.1, v.2.1, va_cpy u.2.2 v.2.2 i' j' n'))) 0) → RS h h' → K (nI n') h' := by
            simp only [if_true, nI_clamp z2, nI_clamp z3, nI_clamp hj'] at k
            exact k
          refine wp_iload (pc := 33) (i := 6) dX6_copy_33 rfl ?_
          first | (with_reducible show WP _ _ _ _ _ _ (Value.int (bI _) :: _) _; refine wp_if_eqB (pc := 35) (tgt := 45) dX6_copy_35 (by decide) (fun c35 => ?_) (fun c35 => ?_)) | (with_reducible show WP _ _ _ _ _ _ (Value.int (nI _) :: _) _; refine wp_if_eqN (pc := 35) (tgt := 45) dX6_copy_35 (by decide) (by omega) (fun c35 => ?_) (fun c35 => ?_)) | refine wp_if_eq (pc := 35) (tgt := 45) dX6_copy_35 (by decide) (fun c35 => ?_) (fun c35 => ?_)
          refine wp_aload_n (pc := 45) (i := 0) dX6_copy_45 rfl rfl ?_
          refine wp_iconst (pc := 46) (v := nI 0) dX6_copy_46 rfl ?_
          refine wp_pf (pc := 47) fp_X6_87 dX6_copy_47 rfl rfl rfl rfl ?_
          refine wp_aload_n (pc := 50) (i := 0) dX6_copy_50 rfl rfl ?_
          refine wp_gfr (pc := 51) fk_X6_10 dX6_copy_51 rfl rfl (by decide) ?_
          refine wp_iload_n (pc := 54) (i := 1) dX6_copy_54 rfl rfl ?_
          refine wp_iload_n (pc := 55) (i := 2) dX6_copy_55 rfl rfl ?_
          refine wp_iload_n (pc := 56) (i := 3) dX6_copy_56 rfl rfl ?_
          refine wp_iload (pc := 57) (i := 4) dX6_copy_57 rfl ?_
          refine wp_iload (pc := 59) (i := 5) dX6_copy_59 rfl ?_
          refine wp_cV5v (pc := 61) lk_X6_102 dX6_copy_61 rfl rfl rfl (sp_move ha hb (by omega) (by omega) ?_)
          refine wp_iload (pc := 64) (i := 5) dX6_copy_64 rfl ?_
          refine wp_iret (pc := 66) dX6_copy_66 rfl ?_
          rotate_left
          rotate_left
          · refine k1 _ ?_ (fun q hq => by rw [hcp, if_neg (by omega), hs_ne (by omega)])
            refine (H.st (s := 0)).row hb (x := some (v.1, v.2.1, va_cpy u.2.2 v.2.2 i' j' n')) ⟨?_, ?_, fun q hq => ?_⟩ (fun q a1 a2 a3 => if_neg a3) (fun q hq => by rw [hcp, if_neg (by omega)]) (fun q hq => by rw [hcp, if_neg (by omega)])
            · rw [hcp, if_neg (by omega), hs_ne (by decide)]; exact hy.1
            · rw [hcp, if_neg (by omega), hs_ne (by decide)]; exact hy.2.1
            · have hq : q < v.2.1 := hq
              rw [hcp, if_pos rfl, hs_ne (by omega), hs_ne (by omega)]
              show va_cpy (h (3 + a)) (h (3 + b)) i' j' n' q = va_cpy u.2.2 v.2.2 i' j' n' q
              by_cases w : j' ≤ q ∧ q < j' + n'
              · rw [pk_cpy_in w.1 w.2, pk_cpy_in w.1 w.2]; exact hx.2.2 _ (by omega)
              · rw [pk_cpy_out (by omega), pk_cpy_out (by omega)]; exact hy.2.2 q hq
          · exact absurd rfl c35
        · have e1 : fin2 (some u) (some v) i j n = 2 := by rw [fin2, if_neg (by simp [q1]), if_neg q2]
          rw [e1]
          rw [if_neg q2] at k
          exact fnd 2 (by decide) (by decide) k
      · have e1 : fin2 (some u) (some v) i j n = 5 := by rw [fin2, if_pos q1]
        rw [e1]
        simp only [Bool.and_self, if_true, q1, not_false_eq_true, ite_true] at k
        exact fnd 5 (by decide) (by decide) k
theorem sp_append {B : List Nat} {x : Nat} {K : Int32 → Hp → Prop} (hB : DB h B) (hl : B.length ≤ 100) (k0 : B.length < 100 → ∀ h', DB h' (B ++ [x]) → (∀ a, a ≠ 13 → a ≠ 14 → h' a = h a) → K (nI 1) h') (k1 : ¬ B.length < 100 → K (nI 0) h) : Call G d mX2_append [.ref 13, .int (nI x)] h (pI K) := by
  obtain ⟨b1, b2⟩ := hB
  refine Call.of (M := mX2_append) (n := 0) (by decide +kernel) rfl ?_
  show WP _ _ _ _ 0 [some (.ref 13), some (.int (nI x))] [] _
  refine wp_aload_n (pc := 0) (i := 0) dX2_append_0 rfl rfl ?_
  refine wp_gfv (pc := 1) fk_X2_22 dX2_append_1 rfl rfl (by first | with_reducible assumption | with_reducible exact hs_same _ _ _ _ | rfl) ?_
  refine wp_bipush (pc := 4) (v := nI 100) dX2_append_4 rfl ?_
  first | (with_reducible show WP _ _ _ _ _ _ (Value.int (nI _) :: Value.int (nI _) :: _) _; refine wp_icmp_ltN (pc := 6) (tgt := 11) dX2_append_6 (by decide) (by omega) (by omega) (fun c6 => ?_) (fun c6 => ?_)) | refine wp_icmp_lt (pc := 6) (tgt := 11) dX2_append_6 (by decide) (fun c6 => ?_) (fun c6 => ?_)
  refine wp_aload_n (pc := 11) (i := 0) dX2_append_11 rfl rfl ?_
  refine wp_gfr (pc := 12) fk_X2_18 dX2_append_12 rfl rfl (by decide) ?_
  refine wp_aload_n (pc := 15) (i := 0) dX2_append_15 rfl rfl ?_
  refine wp_dup (pc := 16) dX2_append_16 rfl ?_
  refine wp_gfv (pc := 17) fk_X2_22 dX2_append_17 rfl rfl (by first | with_reducible assumption | with_reducible exact hs_same _ _ _ _ | rfl) ?_
  refine wp_dup_x1 (pc := 20) dX2_append_20 rfl rfl ?_
  refine wp_iconst (pc := 21) (v := nI 1) dX2_append_21 rfl ?_
  first | (with_reducible show WP _ _ _ _ _ _ (Value.int (nI _) :: Value.int (nI _) :: _) _; refine wp_iaddN (pc := 22) dX2_append_22 ?_) | refine wp_iadd (pc := 22) dX2_append_22 ?_
  refine wp_pf (pc := 23) fp_X2_22 dX2_append_23 rfl rfl rfl rfl ?_
  refine wp_iload_n (pc := 26) (i := 1) dX2_append_26 rfl rfl ?_
  first | (with_reducible show WP _ _ _ _ _ _ (_ :: Value.int (nI _) :: _) _; refine wp_iastN (pc := 27) dX2_append_27 rfl (by omega) ?_) | refine wp_iast (pc := 27) dX2_append_27 rfl (by assumption) rfl ?_
  refine wp_iconst (pc := 28) (v := nI 1) dX2_append_28 rfl ?_
  refine wp_zret (pc := 29) dX2_append_29 rfl (by first | exact Or.inl rfl | exact Or.inr rfl | assumption | exact bI_01 _) ?_
  rotate_left
  refine wp_iconst (pc := 9) (v := nI 0) dX2_append_9 rfl ?_
  refine wp_zret (pc := 10) dX2_append_10 rfl (by first | exact Or.inl rfl | exact Or.inr rfl | assumption | exact bI_01 _) ?_
  rotate_left
  · refine k0 c6 _ ⟨?_, fun i b hb => ?_⟩ (fun a a1 a2 => by rw [hs_ne a2, hs_ne a1])
    · rw [hs_ne (by decide), hs_same]; simp
    · by_cases z : i < B.length
      · rw [List.getElem?_append_left z] at hb
        rw [hs_ix (by omega), hs_ne (by decide)]; exact b2 i b hb
      · rw [List.getElem?_append_right (by omega)] at hb
        have : i - B.length < 1 := (List.getElem?_eq_some_iff.mp hb).1
        rw [show i - B.length = 0 by omega] at hb
        cases hb
        rw [show i = B.length by omega, hs_same]
  · exact k1 c6
theorem sd_feed {x : Int32} {K : Int32 → Hp → Prop} (H : DI h σ) (hO : OKS σ) (k : ∀ h', DI h' (fFeed σ x).2 → RS h h' → K (fFeed σ x).1 h') : Call G (d + 1) mX6_feed [.ref 0, .int x] h (pI K) := by
  have hl := hO.2.2.2.2.1.1
  refine Call.of (M := mX6_feed) (n := 0) (by decide +kernel) rfl ?_
  show WP _ _ _ _ 0 [some (.ref 0), some (.int x)] [] _
  refine wp_iload_n (pc := 0) (i := 1) dX6_feed_0 rfl rfl ?_
  refine wp_iconst (pc := 1) (v := nI 0) dX6_feed_1 rfl ?_
  refine wp_sipush (pc := 2) (v := nI 255) dX6_feed_2 rfl ?_
  refine wp_cS3i (pc := 5) lk_X6_74 dX6_feed_5 rfl (sp_btw (by decide) (by decide) ?_)
  first | (with_reducible show WP _ _ _ _ _ _ (Value.int (bI _) :: _) _; refine wp_if_neB (pc := 8) (tgt := 14) dX6_feed_8 (by decide) (fun c8 => ?_) (fun c8 => ?_)) | (with_reducible show WP _ _ _ _ _ _ (Value.int (nI _) :: _) _; refine wp_if_neN (pc := 8) (tgt := 14) dX6_feed_8 (by decide) (by omega) (fun c8 => ?_) (fun c8 => ?_)) | refine wp_if_ne (pc := 8) (tgt := 14) dX6_feed_8 (by decide) (fun c8 => ?_) (fun c8 => ?_)
  rotate_left
  refine wp_ldc (pc := 11) kn_X6_78 dX6_feed_11 ?_
  refine wp_iret (pc := 13) dX6_feed_13 rfl ?_
  rotate_left
  rotate_left
  · rw [fFeed, c8] at k; exact k h H RS.rf
  rw [fFeed, c8] at k
  obtain ⟨b, -, hb, rfl⟩ := btw_t (by decide) c8
  rw [nI_clamp (by omega)] at k
  refine wp_aload_n (pc := 14) (i := 0) dX6_feed_14 rfl rfl ?_
  refine wp_gfr (pc := 15) fk_X6_19 dX6_feed_15 rfl rfl (by decide) ?_
  refine wp_iload_n (pc := 18) (i := 1) dX6_feed_18 rfl rfl ?_
  refine wp_cV1i (pc := 19) lk_X6_112 dX6_feed_19 rfl rfl rfl ?_
  rotate_left
  obtain ⟨a1, a2, a3, a4, a5, a6, a7, a8⟩ := id H
  refine sp_append a5 hl (fun hlt h1 hb1 hf => ?_) (fun hlt => ?_)
  · simp only [if_true, hlt] at k
    have e1 := hb1.1
    rw [List.length_append] at e1
    first | (with_reducible show WP _ _ _ _ _ _ (Value.int (bI _) :: _) _; refine wp_if_eqB (pc := 22) (tgt := 35) dX6_feed_22 (by decide) (fun c22 => ?_) (fun c22 => ?_)) | (with_reducible show WP _ _ _ _ _ _ (Value.int (nI _) :: _) _; refine wp_if_eqN (pc := 22) (tgt := 35) dX6_feed_22 (by decide) (by omega) (fun c22 => ?_) (fun c22 => ?_)) | refine wp_if_eq (pc := 22) (tgt := 35) dX6_feed_22 (by decide) (fun c22 => ?_) (fun c22 => ?_)
    rotate_left
    refine wp_aload_n (pc := 25) (i := 0) dX6_feed_25 rfl rfl ?_
    refine wp_gfr (pc := 26) fk_X6_19 dX6_feed_26 rfl rfl (by decide) ?_
    refine wp_gfv (pc := 29) fk_X6_115 dX6_feed_29 rfl rfl (by first | with_reducible assumption | with_reducible exact hs_same _ _ _ _ | rfl) ?_
    refine wp_goto (pc := 32) (tgt := 37) dX6_feed_32 (by decide) ?_
    refine wp_iret (pc := 37) dX6_feed_37 rfl ?_
    rotate_left
    · cases c22
    · refine k h1 ⟨a1.cg2 (fun q _ _ => hf q (by omega) (by omega)), a2.cg (fun q _ _ => hf q (by omega) (by omega)), a3.cg (fun q _ _ => hf q (by omega) (by omega)), a4.cg (fun q _ _ => hf q (by omega) (by omega)), hb1, by rw [hf 0 (by decide) (by decide)]; exact a6, by rw [hf 0 (by decide) (by decide)]; exact a7, a8.cg (hf 83 (by decide) (by decide)) (hf 84 (by decide) (by decide))⟩ (fun a ha => hf a (by omega) (by omega))
  · simp only [if_true, hlt, if_false] at k
    first | (with_reducible show WP _ _ _ _ _ _ (Value.int (bI _) :: _) _; refine wp_if_eqB (pc := 22) (tgt := 35) dX6_feed_22 (by decide) (fun c22 => ?_) (fun c22 => ?_)) | (with_reducible show WP _ _ _ _ _ _ (Value.int (nI _) :: _) _; refine wp_if_eqN (pc := 22) (tgt := 35) dX6_feed_22 (by decide) (by omega) (fun c22 => ?_) (fun c22 => ?_)) | refine wp_if_eq (pc := 22) (tgt := 35) dX6_feed_22 (by decide) (fun c22 => ?_) (fun c22 => ?_)
    refine wp_ldc (pc := 35) kn_X6_118 dX6_feed_35 ?_
    refine wp_iret (pc := 37) dX6_feed_37 rfl ?_
    rotate_left
    rotate_left
    · exact k h H RS.rf
    · exact absurd rfl c22
theorem sd_fault {K : Int32 → Hp → Prop} (H : DI h σ) (k : K (nI (gF σ)) h) : Call G d mX6_fault [.ref 0] h (pI K) := by
  have e := H.2.2.2.2.2.1
  refine Call.of (M := mX6_fault) (n := 0) (by decide +kernel) rfl ?_
  show WP _ _ _ _ 0 [some (.ref 0)] [] _
  refine wp_aload_n (pc := 0) (i := 0) dX6_fault_0 rfl rfl ?_
  refine wp_gfv (pc := 1) fk_X6_123 dX6_fault_1 rfl rfl (by first | with_reducible assumption | with_reducible exact hs_same _ _ _ _ | rfl) ?_
  refine wp_iret (pc := 4) dX6_fault_4 rfl ?_
  rotate_left
  exact k
theorem sd_status {K : Int32 → Hp → Prop} (H : DI h σ) (k : K (nI (gS σ)) h) : Call G d mX6_status [.ref 0] h (pI K) := by
  have e := H.2.2.2.2.2.2.1
  refine Call.of (M := mX6_status) (n := 0) (by decide +kernel) rfl ?_
  show WP _ _ _ _ 0 [some (.ref 0)] [] _
  refine wp_aload_n (pc := 0) (i := 0) dX6_status_0 rfl rfl ?_
  refine wp_gfv (pc := 1) fk_X6_87 dX6_status_1 rfl rfl (by first | with_reducible assumption | with_reducible exact hs_same _ _ _ _ | rfl) ?_
  refine wp_iret (pc := 4) dX6_status_4 rfl ?_
  rotate_left
  exact k
end DCOPY
