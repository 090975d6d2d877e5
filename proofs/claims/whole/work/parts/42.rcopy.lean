section RCOPY
variable {G : Gt} {d : Nat} {h : Hp} {σ : Sg}
/-- places s + lo .. s + hi - 1 hold what f has from t + lo on -/
def cpd (f : Nat → Int32) (s t lo hi : Nat) : Nat → Int32 := fun q => if s + lo ≤ q ∧ q < s + hi then f (t + (q - s)) else f q
theorem cpd_back {h1 : Hp} {h : Hp} {s t n m : Nat} (hm : m < n) (e : h1 94 = cpd (h 94) s t (n - m) n) (hlt : t + (n - 1 - m) < s + (n - m) ∨ s + n ≤ t + (n - 1 - m)) : hs h1 94 (s + (n - 1 - m)) (h1 94 (t + (n - 1 - m))) 94 = cpd (h 94) s t (n - (m + 1)) n := by
  rw [hs_at, e]
  funext q
  have e1 : cpd (h 94) s t (n - m) n (t + (n - 1 - m)) = h 94 (t + (n - 1 - m)) := if_neg (by omega)
  rw [e1]
  unfold upd cpd
  by_cases w : q = s + (n - 1 - m)
  · subst w
    rw [if_pos rfl, if_pos (by omega)]
    congr 1; omega
  · rw [if_neg w]
    by_cases w2 : s + (n - m) ≤ q ∧ q < s + n
    · rw [if_pos w2, if_pos (by omega)]
    · rw [if_neg w2, if_neg (by omega)]
theorem cpd_fore {h1 : Hp} {h : Hp} {s t m : Nat} (e : h1 94 = cpd (h 94) s t 0 m) (hlt : t + m < s ∨ s + m ≤ t + m) : hs h1 94 (s + m) (h1 94 (t + m)) 94 = cpd (h 94) s t 0 (m + 1) := by
  rw [hs_at, e]
  funext q
  have e1 : cpd (h 94) s t 0 m (t + m) = h 94 (t + m) := if_neg (by omega)
  rw [e1]
  unfold upd cpd
  by_cases w : q = s + m
  · subst w
    rw [if_pos rfl, if_pos (by omega)]
    congr 1; omega
  · rw [if_neg w]
    by_cases w2 : s + 0 ≤ q ∧ q < s + m
    · rw [if_pos w2, if_pos (by omega)]
    · rw [if_neg w2, if_neg (by omega)]
theorem sr_copy {x i y j n : Int32} {K : Int32 → Hp → Prop} (H : RI h σ) (hO : OKS σ) (k : ∀ h', RI h' (fCopy σ x i y j n).2 → DS h h' → K (fCopy σ x i y j n).1 h') : Call G (d + 2) mX7_copy [.ref 89, .int x, .int i, .int y, .int j, .int n] h (pI K) := by
  refine Call.of (M := mX7_copy) (n := 3) (by decide +kernel) rfl ?_
  show WP _ _ _ _ 0 [some (.ref 89), some (.int x), some (.int i), some (.int y), some (.int j), some (.int n), none, none, none] [] _
  refine wp_iload_n (pc := 0) (i := 1) dX7_copy_0 rfl rfl ?_
  refine wp_cS1i (pc := 1) lk_X7_52 dX7_copy_1 rfl (sp7_isRow ?_)
  first | (with_reducible show WP _ _ _ _ _ _ (Value.int (bI _) :: _) _; refine wp_if_eqB (pc := 4) (tgt := 14) dX7_copy_4 (by decide) (fun c4 => ?_) (fun c4 => ?_)) | (with_reducible show WP _ _ _ _ _ _ (Value.int (nI _) :: _) _; refine wp_if_eqN (pc := 4) (tgt := 14) dX7_copy_4 (by decide) (by omega) (fun c4 => ?_) (fun c4 => ?_)) | refine wp_if_eq (pc := 4) (tgt := 14) dX7_copy_4 (by decide) (fun c4 => ?_) (fun c4 => ?_)
  refine wp_ldc (pc := 14) kn_X7_58 dX7_copy_14 ?_
  refine wp_iret (pc := 16) dX7_copy_16 rfl ?_
  rotate_left
  refine wp_iload_n (pc := 7) (i := 3) dX7_copy_7 rfl rfl ?_
  refine wp_cS1i (pc := 8) lk_X7_52 dX7_copy_8 rfl (sp7_isRow ?_)
  first | (with_reducible show WP _ _ _ _ _ _ (Value.int (bI _) :: _) _; refine wp_if_neB (pc := 11) (tgt := 17) dX7_copy_11 (by decide) (fun c11 => ?_) (fun c11 => ?_)) | (with_reducible show WP _ _ _ _ _ _ (Value.int (nI _) :: _) _; refine wp_if_neN (pc := 11) (tgt := 17) dX7_copy_11 (by decide) (by omega) (fun c11 => ?_) (fun c11 => ?_)) | refine wp_if_ne (pc := 11) (tgt := 17) dX7_copy_11 (by decide) (fun c11 => ?_) (fun c11 => ?_)
  rotate_left
  refine wp_ldc (pc := 14) kn_X7_58 dX7_copy_14 ?_
  refine wp_iret (pc := 16) dX7_copy_16 rfl ?_
  rotate_left
  · rw [fCopy, c4] at k; exact k h H DS.rf
  rotate_left
  · rw [fCopy, c4, c11] at k; exact k h H DS.rf
  rw [fCopy, c4, c11] at k
  obtain ⟨a, ha, rfl⟩ := inN_t (by decide) c4
  obtain ⟨b, hb, rfl⟩ := inN_t (by decide) c11
  rw [nI_clamp (show a < 2 ^ 31 by omega), nI_clamp (show b < 2 ^ 31 by omega)] at k
  have hx := H.2.2.2.2.1 a ha
  have hy := H.2.2.2.2.1 b hb
  have hox := hO.2.2.2.1 a
  have hoy := hO.2.2.2.1 b
  have nul : (∀ h', RI h' (upS σ 1) → DS h h' → K (kFOUND - nI 1) h') → WP G (d + 2) mX7_copy (pI K) 35 [some (.ref 89), some (.int (nI a)), some (.int i), some (.int (nI b)), some (.int j), some (.int n), none, none, none] [] h := by
    intro k1
    refine wp_aload_n (pc := 35) (i := 0) dX7_copy_35 rfl rfl ?_
    refine wp_iconst (pc := 36) (v := nI 1) dX7_copy_36 rfl ?_
    refine wp_cV1i (pc := 37) lk_X7_59 dX7_copy_37 rfl rfl rfl (sp7_find ?_)
    refine wp_iret (pc := 40) dX7_copy_40 rfl ?_
    rotate_left
    exact k1 _ H.st DS.rf.st
  cases hA : gR σ a with
  | none =>
    rw [hA] at k hx
    have e : h 93 a = kM1 := hx
    refine wp_aload_n (pc := 17) (i := 0) dX7_copy_17 rfl rfl ?_
    refine wp_gfr (pc := 18) fk_X7_20 dX7_copy_18 rfl rfl (by decide) ?_
    refine wp_iload_n (pc := 21) (i := 1) dX7_copy_21 rfl rfl ?_
    first | (with_reducible show WP _ _ _ _ _ _ (Value.int (nI _) :: _) _; refine wp_ialdN (pc := 22) dX7_copy_22 rfl (by omega) (by first | with_reducible assumption | with_reducible exact hs_same _ _ _ _ | rfl) ?_) | refine wp_iald (pc := 22) dX7_copy_22 rfl (by assumption) rfl ?_
    rotate_left
    refine wp_if_lt (pc := 23) (tgt := 35) dX7_copy_23 (by decide) (fun c23 => ?_) (fun c23 => ?_)
    · exact nul k
    · exact absurd m1_lt c23
  | some u =>
    rw [hA] at k hx hox
    have e : h 93 a = nI u.2.1 := hx.1
    have ou := hox u rfl
    cases hB : gR σ b with
    | none =>
      rw [hB] at k hy
      have e2 : h 93 b = kM1 := hy
      refine wp_aload_n (pc := 17) (i := 0) dX7_copy_17 rfl rfl ?_
      refine wp_gfr (pc := 18) fk_X7_20 dX7_copy_18 rfl rfl (by decide) ?_
      refine wp_iload_n (pc := 21) (i := 1) dX7_copy_21 rfl rfl ?_
      first | (with_reducible show WP _ _ _ _ _ _ (Value.int (nI _) :: _) _; refine wp_ialdN (pc := 22) dX7_copy_22 rfl (by omega) (by first | with_reducible assumption | with_reducible exact hs_same _ _ _ _ | rfl) ?_) | refine wp_iald (pc := 22) dX7_copy_22 rfl (by assumption) rfl ?_
      first | (with_reducible show WP _ _ _ _ _ _ (Value.int (nI _) :: _) _; refine wp_if_ltN (pc := 23) (tgt := 35) dX7_copy_23 (by decide) (by omega) (fun c23 => ?_) (fun c23 => ?_)) | refine wp_if_lt (pc := 23) (tgt := 35) dX7_copy_23 (by decide) (fun c23 => ?_) (fun c23 => ?_)
      refine wp_aload_n (pc := 35) (i := 0) dX7_copy_35 rfl rfl ?_
      refine wp_iconst (pc := 36) (v := nI 1) dX7_copy_36 rfl ?_
      refine wp_cV1i (pc := 37) lk_X7_59 dX7_copy_37 rfl rfl rfl ?_
      rotate_left
      refine wp_aload_n (pc := 26) (i := 0) dX7_copy_26 rfl rfl ?_
      refine wp_gfr (pc := 27) fk_X7_20 dX7_copy_27 rfl rfl (by decide) ?_
      refine wp_iload_n (pc := 30) (i := 3) dX7_copy_30 rfl rfl ?_
      first | (with_reducible show WP _ _ _ _ _ _ (Value.int (nI _) :: _) _; refine wp_ialdN (pc := 31) dX7_copy_31 rfl (by omega) (by first | with_reducible assumption | with_reducible exact hs_same _ _ _ _ | rfl) ?_) | refine wp_iald (pc := 31) dX7_copy_31 rfl (by assumption) rfl ?_
      rotate_left
      · exact absurd c23 (by omega)
      refine wp_if_ge (pc := 32) (tgt := 41) dX7_copy_32 (by decide) (fun c32 => ?_) (fun c32 => ?_)
      · exact absurd c32 (by decide)
      · exact nul k
    | some v =>
      rw [hB] at k hy hoy
      have e2 : h 93 b = nI v.2.1 := hy.1
      have ov := hoy v rfl
      have f1 : h 92 a = nI u.1 := hx.2.1
      have f2 : h 92 b = nI v.1 := hy.2.1
      refine wp_aload_n (pc := 17) (i := 0) dX7_copy_17 rfl rfl ?_
      refine wp_gfr (pc := 18) fk_X7_20 dX7_copy_18 rfl rfl (by decide) ?_
      refine wp_iload_n (pc := 21) (i := 1) dX7_copy_21 rfl rfl ?_
      first | (with_reducible show WP _ _ _ _ _ _ (Value.int (nI _) :: _) _; refine wp_ialdN (pc := 22) dX7_copy_22 rfl (by omega) (by first | with_reducible assumption | with_reducible exact hs_same _ _ _ _ | rfl) ?_) | refine wp_iald (pc := 22) dX7_copy_22 rfl (by assumption) rfl ?_
      first | (with_reducible show WP _ _ _ _ _ _ (Value.int (nI _) :: _) _; refine wp_if_ltN (pc := 23) (tgt := 35) dX7_copy_23 (by decide) (by omega) (fun c23 => ?_) (fun c23 => ?_)) | refine wp_if_lt (pc := 23) (tgt := 35) dX7_copy_23 (by decide) (fun c23 => ?_) (fun c23 => ?_)
      rotate_left
      refine wp_aload_n (pc := 26) (i := 0) dX7_copy_26 rfl rfl ?_
      refine wp_gfr (pc := 27) fk_X7_20 dX7_copy_27 rfl rfl (by decide) ?_
      refine wp_iload_n (pc := 30) (i := 3) dX7_copy_30 rfl rfl ?_
      first | (with_reducible show WP _ _ _ _ _ _ (Value.int (nI _) :: _) _; refine wp_ialdN (pc := 31) dX7_copy_31 rfl (by omega) (by first | with_reducible assumption | with_reducible exact hs_same _ _ _ _ | rfl) ?_) | refine wp_iald (pc := 31) dX7_copy_31 rfl (by assumption) rfl ?_
      first | (with_reducible show WP _ _ _ _ _ _ (Value.int (nI _) :: _) _; refine wp_if_geN (pc := 32) (tgt := 41) dX7_copy_32 (by decide) (by omega) (fun c32 => ?_) (fun c32 => ?_)) | refine wp_if_ge (pc := 32) (tgt := 41) dX7_copy_32 (by decide) (fun c32 => ?_) (fun c32 => ?_)
      rotate_left
      rotate_left
      · exact absurd c23 (by omega)
      rotate_left
      · exact absurd c32 (by omega)
      by_cases q1 : u.1 = v.1
      · simp only [Bool.and_self, if_true, not_true, if_neg, q1, if_false, not_false_eq_true, ite_false, not_true_eq_false, ite_true] at k
        refine wp_aload_n (pc := 41) (i := 0) dX7_copy_41 rfl rfl ?_
        refine wp_gfr (pc := 42) fk_X7_17 dX7_copy_42 rfl rfl (by decide) ?_
        refine wp_iload_n (pc := 45) (i := 1) dX7_copy_45 rfl rfl ?_
        first | (with_reducible show WP _ _ _ _ _ _ (Value.int (nI _) :: _) _; refine wp_ialdN (pc := 46) dX7_copy_46 rfl (by omega) (by first | with_reducible assumption | with_reducible exact hs_same _ _ _ _ | rfl) ?_) | refine wp_iald (pc := 46) dX7_copy_46 rfl (by assumption) rfl ?_
        refine wp_aload_n (pc := 47) (i := 0) dX7_copy_47 rfl rfl ?_
        refine wp_gfr (pc := 48) fk_X7_17 dX7_copy_48 rfl rfl (by decide) ?_
        refine wp_iload_n (pc := 51) (i := 3) dX7_copy_51 rfl rfl ?_
        first | (with_reducible show WP _ _ _ _ _ _ (Value.int (nI _) :: _) _; refine wp_ialdN (pc := 52) dX7_copy_52 rfl (by omega) (by first | with_reducible assumption | with_reducible exact hs_same _ _ _ _ | rfl) ?_) | refine wp_iald (pc := 52) dX7_copy_52 rfl (by assumption) rfl ?_
        first | (with_reducible show WP _ _ _ _ _ _ (Value.int (nI _) :: Value.int (nI _) :: _) _; refine wp_icmp_eqN (pc := 53) (tgt := 62) dX7_copy_53 (by decide) (by omega) (by omega) (fun c53 => ?_) (fun c53 => ?_)) | refine wp_icmp_eq (pc := 53) (tgt := 62) dX7_copy_53 (by decide) (fun c53 => ?_) (fun c53 => ?_)
        refine wp_aload_n (pc := 62) (i := 0) dX7_copy_62 rfl rfl ?_
        refine wp_iload_n (pc := 63) (i := 1) dX7_copy_63 rfl rfl ?_
        refine wp_iload_n (pc := 64) (i := 2) dX7_copy_64 rfl rfl ?_
        refine wp_iload (pc := 65) (i := 5) dX7_copy_65 rfl ?_
        refine wp_cV3i (pc := 67) lk_X7_70 dX7_copy_67 rfl rfl rfl (sp7_isSpan ha e ou.2 ?_)
        first | (with_reducible show WP _ _ _ _ _ _ (Value.int (bI _) :: _) _; refine wp_if_eqB (pc := 70) (tgt := 85) dX7_copy_70 (by decide) (fun c70 => ?_) (fun c70 => ?_)) | (with_reducible show WP _ _ _ _ _ _ (Value.int (nI _) :: _) _; refine wp_if_eqN (pc := 70) (tgt := 85) dX7_copy_70 (by decide) (by omega) (fun c70 => ?_) (fun c70 => ?_)) | refine wp_if_eq (pc := 70) (tgt := 85) dX7_copy_70 (by decide) (fun c70 => ?_) (fun c70 => ?_)
        refine wp_aload_n (pc := 85) (i := 0) dX7_copy_85 rfl rfl ?_
        refine wp_iconst (pc := 86) (v := nI 2) dX7_copy_86 rfl ?_
        refine wp_cV1i (pc := 87) lk_X7_59 dX7_copy_87 rfl rfl rfl (sp7_find ?_)
        refine wp_iret (pc := 90) dX7_copy_90 rfl ?_
        rotate_left
        refine wp_aload_n (pc := 73) (i := 0) dX7_copy_73 rfl rfl ?_
        refine wp_iload_n (pc := 74) (i := 3) dX7_copy_74 rfl rfl ?_
        refine wp_iload (pc := 75) (i := 4) dX7_copy_75 rfl ?_
        refine wp_iload (pc := 77) (i := 5) dX7_copy_77 rfl ?_
        refine wp_cV3i (pc := 79) lk_X7_70 dX7_copy_79 rfl rfl rfl (sp7_isSpan hb e2 ov.2 ?_)
        first | (with_reducible show WP _ _ _ _ _ _ (Value.int (bI _) :: _) _; refine wp_if_neB (pc := 82) (tgt := 91) dX7_copy_82 (by decide) (fun c82 => ?_) (fun c82 => ?_)) | (with_reducible show WP _ _ _ _ _ _ (Value.int (nI _) :: _) _; refine wp_if_neN (pc := 82) (tgt := 91) dX7_copy_82 (by decide) (by omega) (fun c82 => ?_) (fun c82 => ?_)) | refine wp_if_ne (pc := 82) (tgt := 91) dX7_copy_82 (by decide) (fun c82 => ?_) (fun c82 => ?_)
        rotate_left
        refine wp_aload_n (pc := 85) (i := 0) dX7_copy_85 rfl rfl ?_
        refine wp_iconst (pc := 86) (v := nI 2) dX7_copy_86 rfl ?_
        refine wp_cV1i (pc := 87) lk_X7_59 dX7_copy_87 rfl rfl rfl (sp7_find ?_)
        refine wp_iret (pc := 90) dX7_copy_90 rfl ?_
        rotate_left
        rotate_left
        · simp only [c70, Bool.false_and, Bool.false_eq_true, if_false] at k
          exact k _ H.st DS.rf.st
        · simp only [c70, c82, Bool.and_self, if_true] at k
          obtain ⟨i', n', z1, z2, z3, rfl, rfl⟩ := spn_t c70
          have z4 := of_decide_eq_true c82
          obtain ⟨j', hj', rfl⟩ := nI_of (x := j) ((le0_iff j).mpr z4.1)
          rw [nI_toInt z3, nI_toInt hj'] at z4
          simp only [nI_clamp z2, nI_clamp z3, nI_clamp hj'] at k
          have fin : ∀ h1, h1 94 = cpd (h 94) (40 * b + j') (40 * a + i') 0 n' → (∀ q, q ≠ 94 → h1 q = h q) → ∀ L6 L7 L8, WP G (d + 2) mX7_copy (pI K) 168 [some (.ref 89), some (.int (nI a)), some (.int (nI i')), some (.int (nI b)), some (.int (nI j')), some (.int (nI n')), L6, L7, L8] [] h1 := by
            intro h1 q2 q3 L6 L7 L8
            refine wp_aload_n (pc := 168) (i := 0) dX7_copy_168 rfl rfl ?_
            refine wp_iload (pc := 169) (i := 5) dX7_copy_169 rfl ?_
            refine wp_cV1i (pc := 171) lk_X7_63 dX7_copy_171 rfl rfl rfl (sp7_well ?_)
            refine wp_iret (pc := 174) dX7_copy_174 rfl ?_
            rotate_left
            refine k _ (RI.st (H.row hb (x := some (v.1, v.2.1, va_cpy u.2.2 v.2.2 i' j' n')) ⟨?_, ?_, fun q (hq : q < v.2.1) => ?_⟩ hO.row (fun q a1 a2 a3 => q3 q a3) (fun q hq => by rw [q3 _ (by decide)]) (fun q hq => by rw [q3 _ (by decide)]) (fun q hq => ?_))) (DS.st (fun q hq => q3 q (by omega)))
            · rw [q3 _ (by decide)]; exact e2
            · rw [q3 _ (by decide)]; exact f2
            · rw [q2]
              show cpd (h 94) (40 * b + j') (40 * a + i') 0 n' (40 * b + q) = va_cpy u.2.2 v.2.2 i' j' n' q
              unfold cpd
              by_cases w : j' ≤ q ∧ q < j' + n'
              · rw [pk_cpy_in w.1 w.2, if_pos (by omega), ← hx.2.2 _ (show i' + (q - j') < u.2.1 by omega)]
                congr 1; omega
              · rw [pk_cpy_out (by omega), if_neg (by omega)]; exact hy.2.2 q hq
            · rw [q2]; exact if_neg (by omega)
          have loopB : i' < j' → ∀ m c h1, c + m = n' → h1 94 = cpd (h 94) (40 * b + j') (40 * a + i') (n' - c) n' → (∀ q, q ≠ 94 → h1 q = h q) → ∀ L8, WP G (d + 2) mX7_copy (pI K) 107 [some (.ref 89), some (.int (nI a)), some (.int (nI i')), some (.int (nI b)), some (.int (nI j')), some (.int (nI n')), some (.int (nI 1)), some (.int (nI c)), L8] [] h1 := by
            intro hij m
            induction m with
            | zero =>
              intro c h1 hcm q2 q3 L8
              refine wp_iload (pc := 107) (i := 7) dX7_copy_107 rfl ?_
              refine wp_iload (pc := 109) (i := 5) dX7_copy_109 rfl ?_
              first | (with_reducible show WP _ _ _ _ _ _ (Value.int (nI _) :: Value.int (nI _) :: _) _; refine wp_icmp_geN (pc := 111) (tgt := 168) dX7_copy_111 (by decide) (by omega) (by omega) (fun c111 => ?_) (fun c111 => ?_)) | refine wp_icmp_ge (pc := 111) (tgt := 168) dX7_copy_111 (by decide) (fun c111 => ?_) (fun c111 => ?_)
              rotate_left
              rotate_left
              · exact fin h1 (by rw [q2, show n' - c = 0 by omega]) q3 _ _ _
              · exact absurd hcm (by omega)
            | succ m ih =>
              intro c h1 hcm q2 q3 L8
              refine wp_iload (pc := 107) (i := 7) dX7_copy_107 rfl ?_
              refine wp_iload (pc := 109) (i := 5) dX7_copy_109 rfl ?_
              first | (with_reducible show WP _ _ _ _ _ _ (Value.int (nI _) :: Value.int (nI _) :: _) _; refine wp_icmp_geN (pc := 111) (tgt := 168) dX7_copy_111 (by decide) (by omega) (by omega) (fun c111 => ?_) (fun c111 => ?_)) | refine wp_icmp_ge (pc := 111) (tgt := 168) dX7_copy_111 (by decide) (fun c111 => ?_) (fun c111 => ?_)
              rotate_left
              refine wp_iload (pc := 114) (i := 6) dX7_copy_114 rfl ?_
              first | (with_reducible show WP _ _ _ _ _ _ (Value.int (bI _) :: _) _; refine wp_if_eqB (pc := 116) (tgt := 129) dX7_copy_116 (by decide) (fun c116 => ?_) (fun c116 => ?_)) | (with_reducible show WP _ _ _ _ _ _ (Value.int (nI _) :: _) _; refine wp_if_eqN (pc := 116) (tgt := 129) dX7_copy_116 (by decide) (by omega) (fun c116 => ?_) (fun c116 => ?_)) | refine wp_if_eq (pc := 116) (tgt := 129) dX7_copy_116 (by decide) (fun c116 => ?_) (fun c116 => ?_)
              rotate_left
              refine wp_iload (pc := 119) (i := 5) dX7_copy_119 rfl ?_
              refine wp_iconst (pc := 121) (v := nI 1) dX7_copy_121 rfl ?_
              first | (with_reducible show WP _ _ _ _ _ _ (Value.int (nI _) :: Value.int (nI _) :: _) _; refine wp_isubN (pc := 122) dX7_copy_122 (by omega) ?_) | refine wp_isub (pc := 122) dX7_copy_122 ?_
              refine wp_iload (pc := 123) (i := 7) dX7_copy_123 rfl ?_
              first | (with_reducible show WP _ _ _ _ _ _ (Value.int (nI _) :: Value.int (nI _) :: _) _; refine wp_isubN (pc := 125) dX7_copy_125 (by omega) ?_) | refine wp_isub (pc := 125) dX7_copy_125 ?_
              refine wp_goto (pc := 126) (tgt := 131) dX7_copy_126 (by decide) ?_
              refine wp_istore (pc := 131) (i := 8) dX7_copy_131 rfl (by decide) rfl ?_
              dsimp only [List.set_cons_zero, List.set_cons_succ]
              refine wp_aload_n (pc := 133) (i := 0) dX7_copy_133 rfl rfl ?_
              refine wp_gfr (pc := 134) fk_X7_23 dX7_copy_134 rfl rfl (by decide) ?_
              refine wp_bipush (pc := 137) (v := nI 40) dX7_copy_137 rfl ?_
              refine wp_iload_n (pc := 139) (i := 3) dX7_copy_139 rfl rfl ?_
              first | (with_reducible show WP _ _ _ _ _ _ (Value.int (nI _) :: Value.int (nI _) :: _) _; refine wp_imulN (pc := 140) dX7_copy_140 ?_) | refine wp_imul (pc := 140) dX7_copy_140 ?_
              refine wp_iload (pc := 141) (i := 4) dX7_copy_141 rfl ?_
              first | (with_reducible show WP _ _ _ _ _ _ (Value.int (nI _) :: Value.int (nI _) :: _) _; refine wp_iaddN (pc := 143) dX7_copy_143 ?_) | refine wp_iadd (pc := 143) dX7_copy_143 ?_
              refine wp_iload (pc := 144) (i := 8) dX7_copy_144 rfl ?_
              first | (with_reducible show WP _ _ _ _ _ _ (Value.int (nI _) :: Value.int (nI _) :: _) _; refine wp_iaddN (pc := 146) dX7_copy_146 ?_) | refine wp_iadd (pc := 146) dX7_copy_146 ?_
              refine wp_aload_n (pc := 147) (i := 0) dX7_copy_147 rfl rfl ?_
              refine wp_gfr (pc := 148) fk_X7_23 dX7_copy_148 rfl rfl (by decide) ?_
              refine wp_bipush (pc := 151) (v := nI 40) dX7_copy_151 rfl ?_
              refine wp_iload_n (pc := 153) (i := 1) dX7_copy_153 rfl rfl ?_
              first | (with_reducible show WP _ _ _ _ _ _ (Value.int (nI _) :: Value.int (nI _) :: _) _; refine wp_imulN (pc := 154) dX7_copy_154 ?_) | refine wp_imul (pc := 154) dX7_copy_154 ?_
              refine wp_iload_n (pc := 155) (i := 2) dX7_copy_155 rfl rfl ?_
              first | (with_reducible show WP _ _ _ _ _ _ (Value.int (nI _) :: Value.int (nI _) :: _) _; refine wp_iaddN (pc := 156) dX7_copy_156 ?_) | refine wp_iadd (pc := 156) dX7_copy_156 ?_
              refine wp_iload (pc := 157) (i := 8) dX7_copy_157 rfl ?_
              first | (with_reducible show WP _ _ _ _ _ _ (Value.int (nI _) :: Value.int (nI _) :: _) _; refine wp_iaddN (pc := 159) dX7_copy_159 ?_) | refine wp_iadd (pc := 159) dX7_copy_159 ?_
              first | (with_reducible show WP _ _ _ _ _ _ (Value.int (nI _) :: _) _; refine wp_ialdN (pc := 160) dX7_copy_160 rfl (by omega) (by first | with_reducible assumption | with_reducible exact hs_same _ _ _ _ | rfl) ?_) | refine wp_iald (pc := 160) dX7_copy_160 rfl (by assumption) rfl ?_
              first | (with_reducible show WP _ _ _ _ _ _ (_ :: Value.int (nI _) :: _) _; refine wp_iastN (pc := 161) dX7_copy_161 rfl (by omega) ?_) | refine wp_iast (pc := 161) dX7_copy_161 rfl (by assumption) rfl ?_
              first | refine wp_iincN (pc := 162) (i := 7) (n := 1) dX7_copy_162 rfl rfl (by decide) rfl ?_ | refine wp_iinc (pc := 162) (i := 7) dX7_copy_162 rfl rfl rfl (by decide) rfl ?_
              dsimp only [List.set_cons_zero, List.set_cons_succ]
              refine wp_goto (pc := 165) (tgt := 107) dX7_copy_165 (by decide) ?_
              rotate_left
              · exact absurd c111 (by omega)
              · exact absurd c116 (by omega)
              · exact ih (c + 1) _ (by omega) (cpd_back (by omega) q2 (by omega)) (fun q hq => by rw [hs_ne hq]; exact q3 q hq) _
          have loopF : ¬ i' < j' → ∀ m c h1, c + m = n' → h1 94 = cpd (h 94) (40 * b + j') (40 * a + i') 0 c → (∀ q, q ≠ 94 → h1 q = h q) → ∀ L8, WP G (d + 2) mX7_copy (pI K) 107 [some (.ref 89), some (.int (nI a)), some (.int (nI i')), some (.int (nI b)), some (.int (nI j')), some (.int (nI n')), some (.int (nI 0)), some (.int (nI c)), L8] [] h1 := by
            intro hij m
            induction m with
            | zero =>
              intro c h1 hcm q2 q3 L8
              refine wp_iload (pc := 107) (i := 7) dX7_copy_107 rfl ?_
              refine wp_iload (pc := 109) (i := 5) dX7_copy_109 rfl ?_
              first | (with_reducible show WP _ _ _ _ _ _ (Value.int (nI _) :: Value.int (nI _) :: _) _; refine wp_icmp_geN (pc := 111) (tgt := 168) dX7_copy_111 (by decide) (by omega) (by omega) (fun c111 => ?_) (fun c111 => ?_)) | refine wp_icmp_ge (pc := 111) (tgt := 168) dX7_copy_111 (by decide) (fun c111 => ?_) (fun c111 => ?_)
              rotate_left
              rotate_left
              · exact fin h1 (by rw [q2, show c = n' by omega]) q3 _ _ _
              · exact absurd hcm (by omega)
            | succ m ih =>
              intro c h1 hcm q2 q3 L8
              refine wp_iload (pc := 107) (i := 7) dX7_copy_107 rfl ?_
              refine wp_iload (pc := 109) (i := 5) dX7_copy_109 rfl ?_
              first | (with_reducible show WP _ _ _ _ _ _ (Value.int (nI _) :: Value.int (nI _) :: _) _; refine wp_icmp_geN (pc := 111) (tgt := 168) dX7_copy_111 (by decide) (by omega) (by omega) (fun c111 => ?_) (fun c111 => ?_)) | refine wp_icmp_ge (pc := 111) (tgt := 168) dX7_copy_111 (by decide) (fun c111 => ?_) (fun c111 => ?_)
              rotate_left
              refine wp_iload (pc := 114) (i := 6) dX7_copy_114 rfl ?_
              first | (with_reducible show WP _ _ _ _ _ _ (Value.int (bI _) :: _) _; refine wp_if_eqB (pc := 116) (tgt := 129) dX7_copy_116 (by decide) (fun c116 => ?_) (fun c116 => ?_)) | (with_reducible show WP _ _ _ _ _ _ (Value.int (nI _) :: _) _; refine wp_if_eqN (pc := 116) (tgt := 129) dX7_copy_116 (by decide) (by omega) (fun c116 => ?_) (fun c116 => ?_)) | refine wp_if_eq (pc := 116) (tgt := 129) dX7_copy_116 (by decide) (fun c116 => ?_) (fun c116 => ?_)
              refine wp_iload (pc := 129) (i := 7) dX7_copy_129 rfl ?_
              refine wp_istore (pc := 131) (i := 8) dX7_copy_131 rfl (by decide) rfl ?_
              dsimp only [List.set_cons_zero, List.set_cons_succ]
              refine wp_aload_n (pc := 133) (i := 0) dX7_copy_133 rfl rfl ?_
              refine wp_gfr (pc := 134) fk_X7_23 dX7_copy_134 rfl rfl (by decide) ?_
              refine wp_bipush (pc := 137) (v := nI 40) dX7_copy_137 rfl ?_
              refine wp_iload_n (pc := 139) (i := 3) dX7_copy_139 rfl rfl ?_
              first | (with_reducible show WP _ _ _ _ _ _ (Value.int (nI _) :: Value.int (nI _) :: _) _; refine wp_imulN (pc := 140) dX7_copy_140 ?_) | refine wp_imul (pc := 140) dX7_copy_140 ?_
              refine wp_iload (pc := 141) (i := 4) dX7_copy_141 rfl ?_
              first | (with_reducible show WP _ _ _ _ _ _ (Value.int (nI _) :: Value.int (nI _) :: _) _; refine wp_iaddN (pc := 143) dX7_copy_143 ?_) | refine wp_iadd (pc := 143) dX7_copy_143 ?_
              refine wp_iload (pc := 144) (i := 8) dX7_copy_144 rfl ?_
              first | (with_reducible show WP _ _ _ _ _ _ (Value.int (nI _) :: Value.int (nI _) :: _) _; refine wp_iaddN (pc := 146) dX7_copy_146 ?_) | refine wp_iadd (pc := 146) dX7_copy_146 ?_
              refine wp_aload_n (pc := 147) (i := 0) dX7_copy_147 rfl rfl ?_
              refine wp_gfr (pc := 148) fk_X7_23 dX7_copy_148 rfl rfl (by decide) ?_
              refine wp_bipush (pc := 151) (v := nI 40) dX7_copy_151 rfl ?_
              refine wp_iload_n (pc := 153) (i := 1) dX7_copy_153 rfl rfl ?_
              first | (with_reducible show WP _ _ _ _ _ _ (Value.int (nI _) :: Value.int (nI _) :: _) _; refine wp_imulN (pc := 154) dX7_copy_154 ?_) | refine wp_imul (pc := 154) dX7_copy_154 ?_
              refine wp_iload_n (pc := 155) (i := 2) dX7_copy_155 rfl rfl ?_
              first | (with_reducible show WP _ _ _ _ _ _ (Value.int (nI _) :: Value.int (nI _) :: _) _; refine wp_iaddN (pc := 156) dX7_copy_156 ?_) | refine wp_iadd (pc := 156) dX7_copy_156 ?_
              refine wp_iload (pc := 157) (i := 8) dX7_copy_157 rfl ?_
              first | (with_reducible show WP _ _ _ _ _ _ (Value.int (nI _) :: Value.int (nI _) :: _) _; refine wp_iaddN (pc := 159) dX7_copy_159 ?_) | refine wp_iadd (pc := 159) dX7_copy_159 ?_
              first | (with_reducible show WP _ _ _ _ _ _ (Value.int (nI _) :: _) _; refine wp_ialdN (pc := 160) dX7_copy_160 rfl (by omega) (by first | with_reducible assumption | with_reducible exact hs_same _ _ _ _ | rfl) ?_) | refine wp_iald (pc := 160) dX7_copy_160 rfl (by assumption) rfl ?_
              first | (with_reducible show WP _ _ _ _ _ _ (_ :: Value.int (nI _) :: _) _; refine wp_iastN (pc := 161) dX7_copy_161 rfl (by omega) ?_) | refine wp_iast (pc := 161) dX7_copy_161 rfl (by assumption) rfl ?_
              first | refine wp_iincN (pc := 162) (i := 7) (n := 1) dX7_copy_162 rfl rfl (by decide) rfl ?_ | refine wp_iinc (pc := 162) (i := 7) dX7_copy_162 rfl rfl rfl (by decide) rfl ?_
              dsimp only [List.set_cons_zero, List.set_cons_succ]
              refine wp_goto (pc := 165) (tgt := 107) dX7_copy_165 (by decide) ?_
              rotate_left
              rotate_left
              · exact absurd c111 (by omega)
              · exact ih (c + 1) _ (by omega) (cpd_fore q2 (by omega)) (fun q hq => by rw [hs_ne hq]; exact q3 q hq) _
              · exact absurd rfl c116
          refine wp_iload_n (pc := 91) (i := 2) dX7_copy_91 rfl rfl ?_
          refine wp_iload (pc := 92) (i := 4) dX7_copy_92 rfl ?_
          first | (with_reducible show WP _ _ _ _ _ _ (Value.int (nI _) :: Value.int (nI _) :: _) _; refine wp_icmp_geN (pc := 94) (tgt := 101) dX7_copy_94 (by decide) (by omega) (by omega) (fun c94 => ?_) (fun c94 => ?_)) | refine wp_icmp_ge (pc := 94) (tgt := 101) dX7_copy_94 (by decide) (fun c94 => ?_) (fun c94 => ?_)
          refine wp_iconst (pc := 101) (v := nI 0) dX7_copy_101 rfl ?_
          refine wp_istore (pc := 102) (i := 6) dX7_copy_102 rfl (by decide) rfl ?_
          dsimp only [List.set_cons_zero, List.set_cons_succ]
          refine wp_iconst (pc := 104) (v := nI 0) dX7_copy_104 rfl ?_
          refine wp_istore (pc := 105) (i := 7) dX7_copy_105 rfl (by decide) rfl ?_
          dsimp only [List.set_cons_zero, List.set_cons_succ]
          rotate_left
          refine wp_iconst (pc := 97) (v := nI 1) dX7_copy_97 rfl ?_
          refine wp_goto (pc := 98) (tgt := 102) dX7_copy_98 (by decide) ?_
          refine wp_istore (pc := 102) (i := 6) dX7_copy_102 rfl (by decide) rfl ?_
          dsimp only [List.set_cons_zero, List.set_cons_succ]
          refine wp_iconst (pc := 104) (v := nI 0) dX7_copy_104 rfl ?_
          refine wp_istore (pc := 105) (i := 7) dX7_copy_105 rfl (by decide) rfl ?_
          dsimp only [List.set_cons_zero, List.set_cons_succ]
          rotate_left
          · exact loopF (by omega) n' 0 h (by omega) (funext fun q => (if_neg (by omega)).symm) (fun _ _ => rfl) _
          · exact loopB (by omega) n' 0 h (by omega) (funext fun q => (if_neg (by omega)).symm) (fun _ _ => rfl) _
        · simp only [c70, c82, Bool.and_false, Bool.false_eq_true, if_false] at k
          exact k _ H.st DS.rf.st
        · exact absurd q1 c53
      · simp only [Bool.and_self, if_true, q1, not_false_eq_true, ite_true] at k
        refine wp_aload_n (pc := 41) (i := 0) dX7_copy_41 rfl rfl ?_
        refine wp_gfr (pc := 42) fk_X7_17 dX7_copy_42 rfl rfl (by decide) ?_
        refine wp_iload_n (pc := 45) (i := 1) dX7_copy_45 rfl rfl ?_
        first | (with_reducible show WP _ _ _ _ _ _ (Value.int (nI _) :: _) _; refine wp_ialdN (pc := 46) dX7_copy_46 rfl (by omega) (by first | with_reducible assumption | with_reducible exact hs_same _ _ _ _ | rfl) ?_) | refine wp_iald (pc := 46) dX7_copy_46 rfl (by assumption) rfl ?_
        refine wp_aload_n (pc := 47) (i := 0) dX7_copy_47 rfl rfl ?_
        refine wp_gfr (pc := 48) fk_X7_17 dX7_copy_48 rfl rfl (by decide) ?_
        refine wp_iload_n (pc := 51) (i := 3) dX7_copy_51 rfl rfl ?_
        first | (with_reducible show WP _ _ _ _ _ _ (Value.int (nI _) :: _) _; refine wp_ialdN (pc := 52) dX7_copy_52 rfl (by omega) (by first | with_reducible assumption | with_reducible exact hs_same _ _ _ _ | rfl) ?_) | refine wp_iald (pc := 52) dX7_copy_52 rfl (by assumption) rfl ?_
        first | (with_reducible show WP _ _ _ _ _ _ (Value.int (nI _) :: Value.int (nI _) :: _) _; refine wp_icmp_eqN (pc := 53) (tgt := 62) dX7_copy_53 (by decide) (by omega) (by omega) (fun c53 => ?_) (fun c53 => ?_)) | refine wp_icmp_eq (pc := 53) (tgt := 62) dX7_copy_53 (by decide) (fun c53 => ?_) (fun c53 => ?_)
        rotate_left
        refine wp_aload_n (pc := 56) (i := 0) dX7_copy_56 rfl rfl ?_
        refine wp_iconst (pc := 57) (v := nI 5) dX7_copy_57 rfl ?_
        refine wp_cV1i (pc := 58) lk_X7_59 dX7_copy_58 rfl rfl rfl (sp7_find ?_)
        refine wp_iret (pc := 61) dX7_copy_61 rfl ?_
        rotate_left
        · exact absurd c53 q1
        · exact k _ H.st DS.rf.st
end RCOPY
