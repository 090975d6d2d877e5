/-! questions to the class -/
def sel (y : Int32) (n : Nat) : Nat := if inN y n then y.toNatClampNeg else n
theorem sel_f {y : Int32} {n : Nat} (h : inN y n = false) : sel y n = n := by unfold sel; rw [h]; rfl
theorem sel_t {j n : Nat} (hj : j < n) (hn : n < 2 ^ 31) : sel (nI j) n = j := by unfold sel; rw [inN_nI (by omega), decide_eq_true hj, nI_clamp (by omega)]; rfl
theorem out_sw {y : Int32} {n : Nat} (h : inN y (n + 1) = false) : y.toInt < 0 ∨ (n : Int) < y.toInt := by
  have := of_decide_eq_false h
  omega
def fGran (T : Tn) (x y : Int32) : Int32 := if inN x (T 1) then (match sel y 7 with
  | 0 => nI (T (26 + x.toNatClampNeg))
  | 1 => nI (T (32 + x.toNatClampNeg))
  | 2 => nI (T (38 + x.toNatClampNeg))
  | 3 => nI (T (44 + x.toNatClampNeg))
  | 4 => oI (wt T 0 x.toNatClampNeg)
  | 5 => bI ((wt T 0 x.toNatClampNeg).isSome && !br T 0 x.toNatClampNeg)
  | 6 => nI (T (50 + x.toNatClampNeg))
  | _ => kBAD) else kBAD
def fChild (T : Tn) (x y : Int32) : Int32 := if inN x (T 0) then (match sel y 4 with
  | 0 => nI (T (5 + x.toNatClampNeg))
  | 1 => nI (T (10 + x.toNatClampNeg))
  | 2 => nI (T (15 + x.toNatClampNeg))
  | 3 => nI (gu T 0 (T 1) x.toNatClampNeg)
  | _ => kBAD) else kBAD
def fKind (T : Tn) (x : Int32) : Int32 := if inN x (T 1) then nI (T (20 + x.toNatClampNeg)) else kBAD
def fAhead (T : Tn) (x n w : Int32) : Int32 := if inN x (T 0) && btw n 0 60 && btw w 0 2 then nI (itP T n.toNatClampNeg (5 + 5 * w.toNatClampNeg + x.toNatClampNeg)) else kBAD
def fWith (T : Tn) (x n : Int32) : Int32 := if inN x (T 1) && btw n 0 60 then oI (wt T n.toNatClampNeg x.toNatClampNeg) else kBAD
def fWhole (T : Tn) (x : Int32) : Int32 := if inN x (T 0) then oI (whl T x.toNatClampNeg 0 61) else kBAD
def hgr (T : Tn) (c : Nat) : Nat → Nat → Option Nat
  | _, 0 => none
  | n, m + 1 => if itP T n (5 + c) = 0 then some n else hgr T c (n + 1) m
def fHungry (T : Tn) (x : Int32) : Int32 := if inN x (T 0) then oI (hgr T x.toNatClampNeg 0 61) else kBAD
def fWithout (T : Tn) (n : Int32) : Int32 := if T 1 = 0 then kSTATE else if btw n 1 60 then nI (1 * 2 ^ T 0 - 1) &&& (nI (svs T n.toNatClampNeg) ^^^ kM1) else kBAD
def mts (T : Tn) (g o : Nat) : Nat → Nat → Option Nat
  | _, 0 => none
  | n, m + 1 => if (wt T n g).isSome && decide (wt T n g = wt T n o) then some n else mts T g o (n + 1) m
def fMeets (T : Tn) (x y : Int32) : Int32 := if inN x (T 1) && inN y (T 1) && decide (x ≠ y) then oI (mts T x.toNatClampNeg y.toNatClampNeg 0 61) else kBAD
theorem lt_bit (T : Tn) (n j : Nat) : ∀ k, (lt_ T n k).testBit j = (decide (j < k) && ((wt T n j).isSome && !br T n j))
  | 0 => by simp [lt_]
  | k + 1 => by
    unfold lt_
    rw [Nat.testBit_or, lt_bit T n j k]
    by_cases q : j = k
    · subst q
      cases e : ((wt T n j).isSome && !br T n j) with
      | false => simp
      | true => simp [Nat.testBit_two_pow]
    · have z : (if ((wt T n k).isSome && !br T n k) = true then 2 ^ k else 0).testBit j = false := by
        split
        · rw [Nat.testBit_two_pow]; simp; omega
        · exact Nat.zero_testBit _
      rw [z, Bool.or_false]
      by_cases w : j < k
      · simp [w, show j < k + 1 by omega]
      · simp [w, show ¬ j < k + 1 by omega]
theorem bit_iff (s k : Nat) : (s / 2 ^ k &&& 1 = 1) ↔ s.testBit k = true := by
  rw [Nat.and_one_is_mod, Nat.testBit_eq_decide_div_mod_eq, decide_eq_true_eq]
theorem bit_val (s k : Nat) : nI (s / 2 ^ k &&& 1) = bI (s.testBit k) := by
  rw [Nat.and_one_is_mod, Nat.testBit_eq_decide_div_mod_eq]
  rcases (show s / 2 ^ k % 2 = 0 ∨ s / 2 ^ k % 2 = 1 by omega) with h | h <;> rw [h] <;> rfl
section DASK
variable {G : Gt} {d : Nat} {h : Hp} {T : Tn}
theorem SC.st {h' : Hp} {n : Nat} (s : ST h h' 27 T n) : SC h h' := fun a ha => s.1 a (by omega) (by omega)
theorem SC.tri {h' : Hp} (e : ∀ a, a < 39 ∨ 51 < a → h' a = h a) : SC h h' := fun a ha => e a (by omega)
theorem SC.fr {h' : Hp} (e : Fr h h' 39) : SC h h' := fun a ha => e a (by omega)
theorem sd_gran {x y : Int32} {K : Int32 → Hp → Prop} (hW : TW h 27 T) (hO : OKT T) (k : ∀ h', SC h h' → K (fGran T x y) h') : Call G (d + 3) mX6_gran [.ref 0, .int x, .int y] h (pI K) := by
  obtain ⟨e0, e1, e2, e3, e4, e5, e6, e7, e8, e9, e10, e11, e12, e13⟩ := id hW
  have e5 : ∀ q, q < T 0 → h 28 q = nI (T (5 + q)) := e5
  have e6 : ∀ q, q < T 0 → h 29 q = nI (T (10 + q)) := e6
  have e7 : ∀ q, q < T 0 → h 30 q = nI (T (15 + q)) := e7
  have e8 : ∀ q, q < T 1 → h 31 q = nI (T (20 + q)) := e8
  have e9 : ∀ q, q < T 1 → h 32 q = nI (T (26 + q)) := e9
  have e10 : ∀ q, q < T 1 → h 33 q = nI (T (32 + q)) := e10
  have e11 : ∀ q, q < T 1 → h 34 q = nI (T (38 + q)) := e11
  have e12 : ∀ q, q < T 1 → h 35 q = nI (T (44 + q)) := e12
  have e13 : ∀ q, q < T 1 → h 36 q = nI (T (50 + q)) := e13
  obtain ⟨o0, o1, o2, o3, o4, o5, o6, o7, o8⟩ := id hO
  refine Call.of (M := mX6_gran) (n := 0) (by decide +kernel) rfl ?_
  show WP _ _ _ _ 0 [some (.ref 0), some (.int x), some (.int y)] [] _
  refine wp_aload_n (pc := 0) (i := 0) dX6_gran_0 rfl rfl ?_
  refine wp_gfr (pc := 1) fk_X6_26 dX6_gran_1 rfl rfl (by decide) ?_
  refine wp_iload_n (pc := 4) (i := 1) dX6_gran_4 rfl rfl ?_
  refine wp_cV1i (pc := 5) lk_X6_168 dX6_gran_5 rfl rfl rfl (sp_hasGran isT_27 hW hO ?_)
  first | (with_reducible show WP _ _ _ _ _ _ (Value.int (bI _) :: _) _; refine wp_if_neB (pc := 8) (tgt := 14) dX6_gran_8 (by decide) (fun c8 => ?_) (fun c8 => ?_)) | (with_reducible show WP _ _ _ _ _ _ (Value.int (nI _) :: _) _; refine wp_if_neN (pc := 8) (tgt := 14) dX6_gran_8 (by decide) (by omega) (fun c8 => ?_) (fun c8 => ?_)) | refine wp_if_ne (pc := 8) (tgt := 14) dX6_gran_8 (by decide) (fun c8 => ?_) (fun c8 => ?_)
  rotate_left
  refine wp_ldc (pc := 11) kn_X6_78 dX6_gran_11 ?_
  refine wp_iret (pc := 13) dX6_gran_13 rfl ?_
  rotate_left
  rotate_left
  · rw [fGran, c8] at k; exact k h (SC.rf h)
  rw [fGran, c8] at k
  obtain ⟨g, hg, rfl⟩ := inN_t (by omega) c8
  obtain ⟨g0, g1, g2, g3, g4, g5⟩ := o7 g hg
  rw [nI_clamp (by omega)] at k
  refine wp_iload_n (pc := 14) (i := 2) dX6_gran_14 rfl rfl ?_
  cases hy : inN y 7 with
  | false =>
    rw [sel_f hy] at k
    refine wp_tableOut (tgt := 129) dX6_gran_15 (out_sw hy) (by decide) ?_
    refine wp_ldc (pc := 129) kn_X6_78 dX6_gran_129 ?_
    refine wp_iret (pc := 131) dX6_gran_131 rfl ?_
    rotate_left
    exact k h (SC.rf h)
  | true =>
    obtain ⟨j, hj, rfl⟩ := inN_t (by decide) hy
    rw [sel_t hj (by decide)] at k
    rcases (show j = 0 ∨ j = 1 ∨ j = 2 ∨ j = 3 ∨ j = 4 ∨ j = 5 ∨ j = 6 by omega) with rfl | rfl | rfl | rfl | rfl | rfl | rfl
    · refine wp_tableIn (tgt := 56) dX6_gran_15 (by decide) (by decide) rfl (by decide) ?_
      refine wp_aload_n (pc := 56) (i := 0) dX6_gran_56 rfl rfl ?_
      refine wp_gfr (pc := 57) fk_X6_26 dX6_gran_57 rfl rfl (by decide) ?_
      refine wp_gfr (pc := 60) fk_X6_193 dX6_gran_60 rfl rfl (by decide) ?_
      refine wp_iload_n (pc := 63) (i := 1) dX6_gran_63 rfl rfl ?_
      first | (with_reducible show WP _ _ _ _ _ _ (Value.int (nI _) :: _) _; refine wp_ialdN (pc := 64) dX6_gran_64 rfl (by omega) (by first | with_reducible assumption | with_reducible exact hs_same _ _ _ _ | with_reducible exact e9 _ (by omega) | rfl) ?_) | refine wp_iald (pc := 64) dX6_gran_64 rfl (by assumption) rfl ?_
      refine wp_iret (pc := 65) dX6_gran_65 rfl ?_
      rotate_left
      exact k h (SC.rf h)
    · refine wp_tableIn (tgt := 66) dX6_gran_15 (by decide) (by decide) rfl (by decide) ?_
      refine wp_aload_n (pc := 66) (i := 0) dX6_gran_66 rfl rfl ?_
      refine wp_gfr (pc := 67) fk_X6_26 dX6_gran_67 rfl rfl (by decide) ?_
      refine wp_gfr (pc := 70) fk_X6_177 dX6_gran_70 rfl rfl (by decide) ?_
      refine wp_iload_n (pc := 73) (i := 1) dX6_gran_73 rfl rfl ?_
      first | (with_reducible show WP _ _ _ _ _ _ (Value.int (nI _) :: _) _; refine wp_ialdN (pc := 74) dX6_gran_74 rfl (by omega) (by first | with_reducible assumption | with_reducible exact hs_same _ _ _ _ | with_reducible exact e10 _ (by omega) | rfl) ?_) | refine wp_iald (pc := 74) dX6_gran_74 rfl (by assumption) rfl ?_
      refine wp_iret (pc := 75) dX6_gran_75 rfl ?_
      rotate_left
      exact k h (SC.rf h)
    · refine wp_tableIn (tgt := 76) dX6_gran_15 (by decide) (by decide) rfl (by decide) ?_
      refine wp_aload_n (pc := 76) (i := 0) dX6_gran_76 rfl rfl ?_
      refine wp_gfr (pc := 77) fk_X6_26 dX6_gran_77 rfl rfl (by decide) ?_
      refine wp_gfr (pc := 80) fk_X6_180 dX6_gran_80 rfl rfl (by decide) ?_
      refine wp_iload_n (pc := 83) (i := 1) dX6_gran_83 rfl rfl ?_
      first | (with_reducible show WP _ _ _ _ _ _ (Value.int (nI _) :: _) _; refine wp_ialdN (pc := 84) dX6_gran_84 rfl (by omega) (by first | with_reducible assumption | with_reducible exact hs_same _ _ _ _ | with_reducible exact e11 _ (by omega) | rfl) ?_) | refine wp_iald (pc := 84) dX6_gran_84 rfl (by assumption) rfl ?_
      refine wp_iret (pc := 85) dX6_gran_85 rfl ?_
      rotate_left
      exact k h (SC.rf h)
    · refine wp_tableIn (tgt := 86) dX6_gran_15 (by decide) (by decide) rfl (by decide) ?_
      refine wp_aload_n (pc := 86) (i := 0) dX6_gran_86 rfl rfl ?_
      refine wp_gfr (pc := 87) fk_X6_26 dX6_gran_87 rfl rfl (by decide) ?_
      refine wp_gfr (pc := 90) fk_X6_171 dX6_gran_90 rfl rfl (by decide) ?_
      refine wp_iload_n (pc := 93) (i := 1) dX6_gran_93 rfl rfl ?_
      first | (with_reducible show WP _ _ _ _ _ _ (Value.int (nI _) :: _) _; refine wp_ialdN (pc := 94) dX6_gran_94 rfl (by omega) (by first | with_reducible assumption | with_reducible exact hs_same _ _ _ _ | with_reducible exact e12 _ (by omega) | rfl) ?_) | refine wp_iald (pc := 94) dX6_gran_94 rfl (by assumption) rfl ?_
      refine wp_iret (pc := 95) dX6_gran_95 rfl ?_
      rotate_left
      exact k h (SC.rf h)
    · refine wp_tableIn (tgt := 96) dX6_gran_15 (by decide) (by decide) rfl (by decide) ?_
      refine wp_aload_n (pc := 96) (i := 0) dX6_gran_96 rfl rfl ?_
      refine wp_gfr (pc := 97) fk_X6_26 dX6_gran_97 rfl rfl (by decide) ?_
      refine wp_iload_n (pc := 100) (i := 1) dX6_gran_100 rfl rfl ?_
      refine wp_iconst (pc := 101) (v := nI 0) dX6_gran_101 rfl ?_
      refine wp_cV2i (pc := 102) lk_X6_196 dX6_gran_102 rfl rfl rfl (sp_hostOf isT_27 hW hO hg (by decide) ?_)
      refine wp_iret (pc := 105) dX6_gran_105 rfl ?_
      rotate_left
      exact k h (SC.rf h)
    · refine wp_tableIn (tgt := 106) dX6_gran_15 (by decide) (by decide) rfl (by decide) ?_
      have bl := lt_lt T 0 (T 1)
      have bl2 : 2 ^ T 1 ≤ 2 ^ 6 := Nat.pow_le_pow_right (by decide) o1
      have hb := lt_bit T 0 g (T 1)
      rw [decide_eq_true hg, Bool.true_and] at hb
      refine wp_aload_n (pc := 106) (i := 0) dX6_gran_106 rfl rfl ?_
      refine wp_gfr (pc := 107) fk_X6_26 dX6_gran_107 rfl rfl (by decide) ?_
      refine wp_iconst (pc := 110) (v := nI 0) dX6_gran_110 rfl ?_
      refine wp_cV1i (pc := 111) lk_X6_200 dX6_gran_111 rfl rfl rfl (sp_lostOn isT_27 hW hO (by decide) (fun h1 hs1 => ?_))
      refine wp_iload_n (pc := 114) (i := 1) dX6_gran_114 rfl rfl ?_
      first | (with_reducible show WP _ _ _ _ _ _ (Value.int (nI _) :: Value.int (nI _) :: _) _; refine wp_ishrN (pc := 115) dX6_gran_115 (by omega) (by omega) ?_) | refine wp_ishr (pc := 115) dX6_gran_115 ?_
      refine wp_iconst (pc := 116) (v := nI 1) dX6_gran_116 rfl ?_
      first | (with_reducible show WP _ _ _ _ _ _ (Value.int (nI _) :: Value.int (nI _) :: _) _; refine wp_iandN (pc := 117) dX6_gran_117 ?_) | refine wp_iand (pc := 117) dX6_gran_117 ?_
      refine wp_iret (pc := 118) dX6_gran_118 rfl ?_
      rotate_left
      rw [bit_val, hb]
      exact k h1 (SC.st hs1)
    · refine wp_tableIn (tgt := 119) dX6_gran_15 (by decide) (by decide) rfl (by decide) ?_
      refine wp_aload_n (pc := 119) (i := 0) dX6_gran_119 rfl rfl ?_
      refine wp_gfr (pc := 120) fk_X6_26 dX6_gran_120 rfl rfl (by decide) ?_
      refine wp_gfr (pc := 123) fk_X6_183 dX6_gran_123 rfl rfl (by decide) ?_
      refine wp_iload_n (pc := 126) (i := 1) dX6_gran_126 rfl rfl ?_
      first | (with_reducible show WP _ _ _ _ _ _ (Value.int (nI _) :: _) _; refine wp_ialdN (pc := 127) dX6_gran_127 rfl (by omega) (by first | with_reducible assumption | with_reducible exact hs_same _ _ _ _ | with_reducible exact e13 _ (by omega) | rfl) ?_) | refine wp_iald (pc := 127) dX6_gran_127 rfl (by assumption) rfl ?_
      refine wp_iret (pc := 128) dX6_gran_128 rfl ?_
      rotate_left
      exact k h (SC.rf h)
theorem sd_child {x y : Int32} {K : Int32 → Hp → Prop} (hW : TW h 27 T) (hO : OKT T) (k : ∀ h', SC h h' → K (fChild T x y) h') : Call G (d + 3) mX6_child [.ref 0, .int x, .int y] h (pI K) := by
  obtain ⟨e0, e1, e2, e3, e4, e5, e6, e7, e8, e9, e10, e11, e12, e13⟩ := id hW
  have e5 : ∀ q, q < T 0 → h 28 q = nI (T (5 + q)) := e5
  have e6 : ∀ q, q < T 0 → h 29 q = nI (T (10 + q)) := e6
  have e7 : ∀ q, q < T 0 → h 30 q = nI (T (15 + q)) := e7
  have e8 : ∀ q, q < T 1 → h 31 q = nI (T (20 + q)) := e8
  have e9 : ∀ q, q < T 1 → h 32 q = nI (T (26 + q)) := e9
  have e10 : ∀ q, q < T 1 → h 33 q = nI (T (32 + q)) := e10
  have e11 : ∀ q, q < T 1 → h 34 q = nI (T (38 + q)) := e11
  have e12 : ∀ q, q < T 1 → h 35 q = nI (T (44 + q)) := e12
  have e13 : ∀ q, q < T 1 → h 36 q = nI (T (50 + q)) := e13
  obtain ⟨o0, o1, o2, o3, o4, o5, o6, o7, o8⟩ := id hO
  refine Call.of (M := mX6_child) (n := 0) (by decide +kernel) rfl ?_
  show WP _ _ _ _ 0 [some (.ref 0), some (.int x), some (.int y)] [] _
  refine wp_aload_n (pc := 0) (i := 0) dX6_child_0 rfl rfl ?_
  refine wp_gfr (pc := 1) fk_X6_26 dX6_child_1 rfl rfl (by decide) ?_
  refine wp_iload_n (pc := 4) (i := 1) dX6_child_4 rfl rfl ?_
  refine wp_cV1i (pc := 5) lk_X6_174 dX6_child_5 rfl rfl rfl (sp_hasChild isT_27 hW hO ?_)
  first | (with_reducible show WP _ _ _ _ _ _ (Value.int (bI _) :: _) _; refine wp_if_neB (pc := 8) (tgt := 14) dX6_child_8 (by decide) (fun c8 => ?_) (fun c8 => ?_)) | (with_reducible show WP _ _ _ _ _ _ (Value.int (nI _) :: _) _; refine wp_if_neN (pc := 8) (tgt := 14) dX6_child_8 (by decide) (by omega) (fun c8 => ?_) (fun c8 => ?_)) | refine wp_if_ne (pc := 8) (tgt := 14) dX6_child_8 (by decide) (fun c8 => ?_) (fun c8 => ?_)
  rotate_left
  refine wp_ldc (pc := 11) kn_X6_78 dX6_child_11 ?_
  refine wp_iret (pc := 13) dX6_child_13 rfl ?_
  rotate_left
  rotate_left
  · rw [fChild, c8] at k; exact k h (SC.rf h)
  rw [fChild, c8] at k
  obtain ⟨c, hc, rfl⟩ := inN_t (by omega) c8
  rw [nI_clamp (by omega)] at k
  refine wp_iload_n (pc := 14) (i := 2) dX6_child_14 rfl rfl ?_
  cases hy : inN y 4 with
  | false =>
    rw [sel_f hy] at k
    refine wp_tableOut (tgt := 83) dX6_child_15 (out_sw hy) (by decide) ?_
    refine wp_ldc (pc := 83) kn_X6_78 dX6_child_83 ?_
    refine wp_iret (pc := 85) dX6_child_85 rfl ?_
    rotate_left
    exact k h (SC.rf h)
  | true =>
    obtain ⟨j, hj, rfl⟩ := inN_t (by decide) hy
    rw [sel_t hj (by decide)] at k
    rcases (show j = 0 ∨ j = 1 ∨ j = 2 ∨ j = 3 by omega) with rfl | rfl | rfl | rfl
    · refine wp_tableIn (tgt := 44) dX6_child_15 (by decide) (by decide) rfl (by decide) ?_
      refine wp_aload_n (pc := 44) (i := 0) dX6_child_44 rfl rfl ?_
      refine wp_gfr (pc := 45) fk_X6_26 dX6_child_45 rfl rfl (by decide) ?_
      refine wp_gfr (pc := 48) fk_X6_203 dX6_child_48 rfl rfl (by decide) ?_
      refine wp_iload_n (pc := 51) (i := 1) dX6_child_51 rfl rfl ?_
      first | (with_reducible show WP _ _ _ _ _ _ (Value.int (nI _) :: _) _; refine wp_ialdN (pc := 52) dX6_child_52 rfl (by omega) (by first | with_reducible assumption | with_reducible exact hs_same _ _ _ _ | with_reducible exact e5 _ (by omega) | rfl) ?_) | refine wp_iald (pc := 52) dX6_child_52 rfl (by assumption) rfl ?_
      refine wp_iret (pc := 53) dX6_child_53 rfl ?_
      rotate_left
      exact k h (SC.rf h)
    · refine wp_tableIn (tgt := 54) dX6_child_15 (by decide) (by decide) rfl (by decide) ?_
      refine wp_aload_n (pc := 54) (i := 0) dX6_child_54 rfl rfl ?_
      refine wp_gfr (pc := 55) fk_X6_26 dX6_child_55 rfl rfl (by decide) ?_
      refine wp_gfr (pc := 58) fk_X6_190 dX6_child_58 rfl rfl (by decide) ?_
      refine wp_iload_n (pc := 61) (i := 1) dX6_child_61 rfl rfl ?_
      first | (with_reducible show WP _ _ _ _ _ _ (Value.int (nI _) :: _) _; refine wp_ialdN (pc := 62) dX6_child_62 rfl (by omega) (by first | with_reducible assumption | with_reducible exact hs_same _ _ _ _ | with_reducible exact e6 _ (by omega) | rfl) ?_) | refine wp_iald (pc := 62) dX6_child_62 rfl (by assumption) rfl ?_
      refine wp_iret (pc := 63) dX6_child_63 rfl ?_
      rotate_left
      exact k h (SC.rf h)
    · refine wp_tableIn (tgt := 64) dX6_child_15 (by decide) (by decide) rfl (by decide) ?_
      refine wp_aload_n (pc := 64) (i := 0) dX6_child_64 rfl rfl ?_
      refine wp_gfr (pc := 65) fk_X6_26 dX6_child_65 rfl rfl (by decide) ?_
      refine wp_gfr (pc := 68) fk_X6_206 dX6_child_68 rfl rfl (by decide) ?_
      refine wp_iload_n (pc := 71) (i := 1) dX6_child_71 rfl rfl ?_
      first | (with_reducible show WP _ _ _ _ _ _ (Value.int (nI _) :: _) _; refine wp_ialdN (pc := 72) dX6_child_72 rfl (by omega) (by first | with_reducible assumption | with_reducible exact hs_same _ _ _ _ | with_reducible exact e7 _ (by omega) | rfl) ?_) | refine wp_iald (pc := 72) dX6_child_72 rfl (by assumption) rfl ?_
      refine wp_iret (pc := 73) dX6_child_73 rfl ?_
      rotate_left
      exact k h (SC.rf h)
    · refine wp_tableIn (tgt := 74) dX6_child_15 (by decide) (by decide) rfl (by decide) ?_
      refine wp_aload_n (pc := 74) (i := 0) dX6_child_74 rfl rfl ?_
      refine wp_gfr (pc := 75) fk_X6_26 dX6_child_75 rfl rfl (by decide) ?_
      refine wp_iload_n (pc := 78) (i := 1) dX6_child_78 rfl rfl ?_
      refine wp_cV1i (pc := 79) lk_X6_209 dX6_child_79 rfl rfl rfl (sp_guestsOf isT_27 hW hO hc (fun h1 hs1 => ?_))
      refine wp_iret (pc := 82) dX6_child_82 rfl ?_
      rotate_left
      exact k h1 (SC.st hs1)
theorem sd_kind {x : Int32} {K : Int32 → Hp → Prop} (hW : TW h 27 T) (hO : OKT T) (k : K (fKind T x) h) : Call G (d + 1) mX6_kind [.ref 0, .int x] h (pI K) := by
  obtain ⟨e0, e1, e2, e3, e4, e5, e6, e7, e8, e9, e10, e11, e12, e13⟩ := id hW
  have e5 : ∀ q, q < T 0 → h 28 q = nI (T (5 + q)) := e5
  have e6 : ∀ q, q < T 0 → h 29 q = nI (T (10 + q)) := e6
  have e7 : ∀ q, q < T 0 → h 30 q = nI (T (15 + q)) := e7
  have e8 : ∀ q, q < T 1 → h 31 q = nI (T (20 + q)) := e8
  have e9 : ∀ q, q < T 1 → h 32 q = nI (T (26 + q)) := e9
  have e10 : ∀ q, q < T 1 → h 33 q = nI (T (32 + q)) := e10
  have e11 : ∀ q, q < T 1 → h 34 q = nI (T (38 + q)) := e11
  have e12 : ∀ q, q < T 1 → h 35 q = nI (T (44 + q)) := e12
  have e13 : ∀ q, q < T 1 → h 36 q = nI (T (50 + q)) := e13
  obtain ⟨o0, o1, o2, o3, o4, o5, o6, o7, o8⟩ := id hO
  refine Call.of (M := mX6_kind) (n := 0) (by decide +kernel) rfl ?_
  show WP _ _ _ _ 0 [some (.ref 0), some (.int x)] [] _
  refine wp_aload_n (pc := 0) (i := 0) dX6_kind_0 rfl rfl ?_
  refine wp_gfr (pc := 1) fk_X6_26 dX6_kind_1 rfl rfl (by decide) ?_
  refine wp_iload_n (pc := 4) (i := 1) dX6_kind_4 rfl rfl ?_
  refine wp_cV1i (pc := 5) lk_X6_168 dX6_kind_5 rfl rfl rfl (sp_hasGran isT_27 hW hO ?_)
  first | (with_reducible show WP _ _ _ _ _ _ (Value.int (bI _) :: _) _; refine wp_if_eqB (pc := 8) (tgt := 23) dX6_kind_8 (by decide) (fun c8 => ?_) (fun c8 => ?_)) | (with_reducible show WP _ _ _ _ _ _ (Value.int (nI _) :: _) _; refine wp_if_eqN (pc := 8) (tgt := 23) dX6_kind_8 (by decide) (by omega) (fun c8 => ?_) (fun c8 => ?_)) | refine wp_if_eq (pc := 8) (tgt := 23) dX6_kind_8 (by decide) (fun c8 => ?_) (fun c8 => ?_)
  refine wp_ldc (pc := 23) kn_X6_78 dX6_kind_23 ?_
  refine wp_iret (pc := 25) dX6_kind_25 rfl ?_
  rotate_left
  rotate_left
  · rw [fKind, c8] at k; exact k
  rw [fKind, c8] at k
  obtain ⟨g, hg, rfl⟩ := inN_t (by omega) c8
  rw [nI_clamp (by omega)] at k
  refine wp_aload_n (pc := 11) (i := 0) dX6_kind_11 rfl rfl ?_
  refine wp_gfr (pc := 12) fk_X6_26 dX6_kind_12 rfl rfl (by decide) ?_
  refine wp_gfr (pc := 15) fk_X6_253 dX6_kind_15 rfl rfl (by decide) ?_
  refine wp_iload_n (pc := 18) (i := 1) dX6_kind_18 rfl rfl ?_
  first | (with_reducible show WP _ _ _ _ _ _ (Value.int (nI _) :: _) _; refine wp_ialdN (pc := 19) dX6_kind_19 rfl (by omega) (by first | with_reducible assumption | with_reducible exact hs_same _ _ _ _ | with_reducible exact e8 _ (by omega) | rfl) ?_) | refine wp_iald (pc := 19) dX6_kind_19 rfl (by assumption) rfl ?_
  refine wp_goto (pc := 20) (tgt := 25) dX6_kind_20 (by decide) ?_
  refine wp_iret (pc := 25) dX6_kind_25 rfl ?_
  rotate_left
  exact k
theorem sd_ahead {x n w : Int32} {K : Int32 → Hp → Prop} (hW : TW h 27 T) (hO : OKT T) (hz : 0 < T 0 → 0 < T 1) (hd : T 4 ≤ 999) (k : ∀ h', SC h h' → K (fAhead T x n w) h') : Call G (d + 5) mX6_ahead [.ref 0, .int x, .int n, .int w] h (pI K) := by
  obtain ⟨o0, o1, o2, o3, o4, o5, o6, o7, o8⟩ := id hO
  refine Call.of (M := mX6_ahead) (n := 0) (by decide +kernel) rfl ?_
  show WP _ _ _ _ 0 [some (.ref 0), some (.int x), some (.int n), some (.int w)] [] _
  refine wp_aload_n (pc := 0) (i := 0) dX6_ahead_0 rfl rfl ?_
  refine wp_gfr (pc := 1) fk_X6_26 dX6_ahead_1 rfl rfl (by decide) ?_
  refine wp_iload_n (pc := 4) (i := 1) dX6_ahead_4 rfl rfl ?_
  refine wp_cV1i (pc := 5) lk_X6_174 dX6_ahead_5 rfl rfl rfl (sp_hasChild isT_27 hW hO ?_)
  first | (with_reducible show WP _ _ _ _ _ _ (Value.int (bI _) :: _) _; refine wp_if_eqB (pc := 8) (tgt := 30) dX6_ahead_8 (by decide) (fun c8 => ?_) (fun c8 => ?_)) | (with_reducible show WP _ _ _ _ _ _ (Value.int (nI _) :: _) _; refine wp_if_eqN (pc := 8) (tgt := 30) dX6_ahead_8 (by decide) (by omega) (fun c8 => ?_) (fun c8 => ?_)) | refine wp_if_eq (pc := 8) (tgt := 30) dX6_ahead_8 (by decide) (fun c8 => ?_) (fun c8 => ?_)
  refine wp_ldc (pc := 30) kn_X6_78 dX6_ahead_30 ?_
  refine wp_iret (pc := 32) dX6_ahead_32 rfl ?_
  rotate_left
  refine wp_iload_n (pc := 11) (i := 2) dX6_ahead_11 rfl rfl ?_
  refine wp_iconst (pc := 12) (v := nI 0) dX6_ahead_12 rfl ?_
  refine wp_bipush (pc := 13) (v := nI 60) dX6_ahead_13 rfl ?_
  refine wp_cS3i (pc := 15) lk_X6_74 dX6_ahead_15 rfl (sp_btw (by decide) (by decide) ?_)
  first | (with_reducible show WP _ _ _ _ _ _ (Value.int (bI _) :: _) _; refine wp_if_eqB (pc := 18) (tgt := 30) dX6_ahead_18 (by decide) (fun c18 => ?_) (fun c18 => ?_)) | (with_reducible show WP _ _ _ _ _ _ (Value.int (nI _) :: _) _; refine wp_if_eqN (pc := 18) (tgt := 30) dX6_ahead_18 (by decide) (by omega) (fun c18 => ?_) (fun c18 => ?_)) | refine wp_if_eq (pc := 18) (tgt := 30) dX6_ahead_18 (by decide) (fun c18 => ?_) (fun c18 => ?_)
  refine wp_ldc (pc := 30) kn_X6_78 dX6_ahead_30 ?_
  refine wp_iret (pc := 32) dX6_ahead_32 rfl ?_
  rotate_left
  refine wp_iload_n (pc := 21) (i := 3) dX6_ahead_21 rfl rfl ?_
  refine wp_iconst (pc := 22) (v := nI 0) dX6_ahead_22 rfl ?_
  refine wp_iconst (pc := 23) (v := nI 2) dX6_ahead_23 rfl ?_
  refine wp_cS3i (pc := 24) lk_X6_74 dX6_ahead_24 rfl (sp_btw (by decide) (by decide) ?_)
  first | (with_reducible show WP _ _ _ _ _ _ (Value.int (bI _) :: _) _; refine wp_if_neB (pc := 27) (tgt := 33) dX6_ahead_27 (by decide) (fun c27 => ?_) (fun c27 => ?_)) | (with_reducible show WP _ _ _ _ _ _ (Value.int (nI _) :: _) _; refine wp_if_neN (pc := 27) (tgt := 33) dX6_ahead_27 (by decide) (by omega) (fun c27 => ?_) (fun c27 => ?_)) | refine wp_if_ne (pc := 27) (tgt := 33) dX6_ahead_27 (by decide) (fun c27 => ?_) (fun c27 => ?_)
  rotate_left
  refine wp_ldc (pc := 30) kn_X6_78 dX6_ahead_30 ?_
  refine wp_iret (pc := 32) dX6_ahead_32 rfl ?_
  rotate_left
  · rw [fAhead, c8] at k; exact k h (SC.rf h)
  · rw [fAhead, c8, c18] at k; exact k h (SC.rf h)
  rotate_left
  · rw [fAhead, c8, c18, c27] at k; exact k h (SC.rf h)
  rw [fAhead, c8, c18, c27] at k
  obtain ⟨c, hc, rfl⟩ := inN_t (by omega) c8
  obtain ⟨m, -, hm, rfl⟩ := btw_t (by decide) c18
  obtain ⟨j, -, hj, rfl⟩ := btw_t (by decide) c27
  rw [nI_clamp (by omega), nI_clamp (by omega), nI_clamp (by omega)] at k
  obtain ⟨a, b, e⟩ := itP_keep hO (hz (by omega)) m (by omega)
  have e0 := e 0 (by omega)
  refine wp_aload_n (pc := 33) (i := 0) dX6_ahead_33 rfl rfl ?_
  refine wp_cV0v (pc := 34) lk_X6_212 dX6_ahead_34 rfl rfl rfl (sp_openTrial hW hO (fun h1 hW1 hf1 => ?_))
  refine wp_aload_n (pc := 37) (i := 0) dX6_ahead_37 rfl rfl ?_
  refine wp_gfr (pc := 38) fk_X6_30 dX6_ahead_38 rfl rfl (by decide) ?_
  refine wp_iload_n (pc := 41) (i := 2) dX6_ahead_41 rfl rfl ?_
  refine wp_cV1v (pc := 42) lk_X6_215 dX6_ahead_42 rfl rfl rfl (sp_passDays isT_39 hW1 hO (hz (by omega)) hm (by omega) (fun h2 hW2 hF2 => ?_))
  rotate_left
  have kk := k h2 ((SC.tri hf1).tr (SC.fr hF2))
  obtain ⟨r0, r1, r2, r3, r4, r5, r6, r7, r8, r9, r10, r11, r12, r13⟩ := id hW2
  have r5 : ∀ q, q < itP T m 0 → h2 40 q = nI (itP T m (5 + q)) := r5
  have r6 : ∀ q, q < itP T m 0 → h2 41 q = nI (itP T m (10 + q)) := r6
  have r7 : ∀ q, q < itP T m 0 → h2 42 q = nI (itP T m (15 + q)) := r7
  have r8 : ∀ q, q < itP T m 1 → h2 43 q = nI (itP T m (20 + q)) := r8
  have r9 : ∀ q, q < itP T m 1 → h2 44 q = nI (itP T m (26 + q)) := r9
  have r10 : ∀ q, q < itP T m 1 → h2 45 q = nI (itP T m (32 + q)) := r10
  have r11 : ∀ q, q < itP T m 1 → h2 46 q = nI (itP T m (38 + q)) := r11
  have r12 : ∀ q, q < itP T m 1 → h2 47 q = nI (itP T m (44 + q)) := r12
  have r13 : ∀ q, q < itP T m 1 → h2 48 q = nI (itP T m (50 + q)) := r13
  rw [e0] at r5 r6 r7
  refine wp_iload_n (pc := 45) (i := 3) dX6_ahead_45 rfl rfl ?_
  first | (with_reducible show WP _ _ _ _ _ _ (Value.int (bI _) :: _) _; refine wp_if_neB (pc := 46) (tgt := 59) dX6_ahead_46 (by decide) (fun c46 => ?_) (fun c46 => ?_)) | (with_reducible show WP _ _ _ _ _ _ (Value.int (nI _) :: _) _; refine wp_if_neN (pc := 46) (tgt := 59) dX6_ahead_46 (by decide) (by omega) (fun c46 => ?_) (fun c46 => ?_)) | refine wp_if_ne (pc := 46) (tgt := 59) dX6_ahead_46 (by decide) (fun c46 => ?_) (fun c46 => ?_)
  refine wp_iload_n (pc := 59) (i := 3) dX6_ahead_59 rfl rfl ?_
  refine wp_iconst (pc := 60) (v := nI 1) dX6_ahead_60 rfl ?_
  first | (with_reducible show WP _ _ _ _ _ _ (Value.int (nI _) :: Value.int (nI _) :: _) _; refine wp_icmp_neN (pc := 61) (tgt := 76) dX6_ahead_61 (by decide) (by omega) (by omega) (fun c61 => ?_) (fun c61 => ?_)) | refine wp_icmp_ne (pc := 61) (tgt := 76) dX6_ahead_61 (by decide) (fun c61 => ?_) (fun c61 => ?_)
  refine wp_aload_n (pc := 76) (i := 0) dX6_ahead_76 rfl rfl ?_
  refine wp_gfr (pc := 77) fk_X6_30 dX6_ahead_77 rfl rfl (by decide) ?_
  refine wp_gfr (pc := 80) fk_X6_206 dX6_ahead_80 rfl rfl (by decide) ?_
  refine wp_iload_n (pc := 83) (i := 1) dX6_ahead_83 rfl rfl ?_
  first | (with_reducible show WP _ _ _ _ _ _ (Value.int (nI _) :: _) _; refine wp_ialdN (pc := 84) dX6_ahead_84 rfl (by omega) (by first | with_reducible assumption | with_reducible exact hs_same _ _ _ _ | with_reducible exact r5 _ (by omega) | with_reducible exact r6 _ (by omega) | with_reducible exact r7 _ (by omega) | rfl) ?_) | refine wp_iald (pc := 84) dX6_ahead_84 rfl (by assumption) rfl ?_
  refine wp_iret (pc := 85) dX6_ahead_85 rfl ?_
  rotate_left
  refine wp_aload_n (pc := 64) (i := 0) dX6_ahead_64 rfl rfl ?_
  refine wp_gfr (pc := 65) fk_X6_30 dX6_ahead_65 rfl rfl (by decide) ?_
  refine wp_gfr (pc := 68) fk_X6_190 dX6_ahead_68 rfl rfl (by decide) ?_
  refine wp_iload_n (pc := 71) (i := 1) dX6_ahead_71 rfl rfl ?_
  first | (with_reducible show WP _ _ _ _ _ _ (Value.int (nI _) :: _) _; refine wp_ialdN (pc := 72) dX6_ahead_72 rfl (by omega) (by first | with_reducible assumption | with_reducible exact hs_same _ _ _ _ | with_reducible exact r5 _ (by omega) | with_reducible exact r6 _ (by omega) | with_reducible exact r7 _ (by omega) | rfl) ?_) | refine wp_iald (pc := 72) dX6_ahead_72 rfl (by assumption) rfl ?_
  refine wp_goto (pc := 73) (tgt := 85) dX6_ahead_73 (by decide) ?_
  refine wp_iret (pc := 85) dX6_ahead_85 rfl ?_
  rotate_left
  refine wp_aload_n (pc := 49) (i := 0) dX6_ahead_49 rfl rfl ?_
  refine wp_gfr (pc := 50) fk_X6_30 dX6_ahead_50 rfl rfl (by decide) ?_
  refine wp_gfr (pc := 53) fk_X6_203 dX6_ahead_53 rfl rfl (by decide) ?_
  refine wp_iload_n (pc := 56) (i := 1) dX6_ahead_56 rfl rfl ?_
  first | (with_reducible show WP _ _ _ _ _ _ (Value.int (nI _) :: _) _; refine wp_ialdN (pc := 57) dX6_ahead_57 rfl (by omega) (by first | with_reducible assumption | with_reducible exact hs_same _ _ _ _ | with_reducible exact r5 _ (by omega) | with_reducible exact r6 _ (by omega) | with_reducible exact r7 _ (by omega) | rfl) ?_) | refine wp_iald (pc := 57) dX6_ahead_57 rfl (by assumption) rfl ?_
  refine wp_iret (pc := 58) dX6_ahead_58 rfl ?_
  rotate_left
  · rw [show j = 2 by omega] at kk; exact kk
  · rw [show j = 1 by omega] at kk; exact kk
  · rw [show j = 0 by omega] at kk; exact kk
theorem sd_withWhom {x n : Int32} {K : Int32 → Hp → Prop} (hW : TW h 27 T) (hO : OKT T) (k : K (fWith T x n) h) : Call G (d + 1) mX6_withWhom [.ref 0, .int x, .int n] h (pI K) := by
  obtain ⟨o0, o1, o2, o3, o4, o5, o6, o7, o8⟩ := id hO
  refine Call.of (M := mX6_withWhom) (n := 0) (by decide +kernel) rfl ?_
  show WP _ _ _ _ 0 [some (.ref 0), some (.int x), some (.int n)] [] _
  refine wp_aload_n (pc := 0) (i := 0) dX6_withWhom_0 rfl rfl ?_
  refine wp_gfr (pc := 1) fk_X6_26 dX6_withWhom_1 rfl rfl (by decide) ?_
  refine wp_iload_n (pc := 4) (i := 1) dX6_withWhom_4 rfl rfl ?_
  refine wp_cV1i (pc := 5) lk_X6_168 dX6_withWhom_5 rfl rfl rfl (sp_hasGran isT_27 hW hO ?_)
  first | (with_reducible show WP _ _ _ _ _ _ (Value.int (bI _) :: _) _; refine wp_if_eqB (pc := 8) (tgt := 21) dX6_withWhom_8 (by decide) (fun c8 => ?_) (fun c8 => ?_)) | (with_reducible show WP _ _ _ _ _ _ (Value.int (nI _) :: _) _; refine wp_if_eqN (pc := 8) (tgt := 21) dX6_withWhom_8 (by decide) (by omega) (fun c8 => ?_) (fun c8 => ?_)) | refine wp_if_eq (pc := 8) (tgt := 21) dX6_withWhom_8 (by decide) (fun c8 => ?_) (fun c8 => ?_)
  refine wp_ldc (pc := 21) kn_X6_78 dX6_withWhom_21 ?_
  refine wp_iret (pc := 23) dX6_withWhom_23 rfl ?_
  rotate_left
  refine wp_iload_n (pc := 11) (i := 2) dX6_withWhom_11 rfl rfl ?_
  refine wp_iconst (pc := 12) (v := nI 0) dX6_withWhom_12 rfl ?_
  refine wp_bipush (pc := 13) (v := nI 60) dX6_withWhom_13 rfl ?_
  refine wp_cS3i (pc := 15) lk_X6_74 dX6_withWhom_15 rfl (sp_btw (by decide) (by decide) ?_)
  first | (with_reducible show WP _ _ _ _ _ _ (Value.int (bI _) :: _) _; refine wp_if_neB (pc := 18) (tgt := 24) dX6_withWhom_18 (by decide) (fun c18 => ?_) (fun c18 => ?_)) | (with_reducible show WP _ _ _ _ _ _ (Value.int (nI _) :: _) _; refine wp_if_neN (pc := 18) (tgt := 24) dX6_withWhom_18 (by decide) (by omega) (fun c18 => ?_) (fun c18 => ?_)) | refine wp_if_ne (pc := 18) (tgt := 24) dX6_withWhom_18 (by decide) (fun c18 => ?_) (fun c18 => ?_)
  rotate_left
  refine wp_ldc (pc := 21) kn_X6_78 dX6_withWhom_21 ?_
  refine wp_iret (pc := 23) dX6_withWhom_23 rfl ?_
  rotate_left
  · rw [fWith, c8] at k; exact k
  rotate_left
  · rw [fWith, c8, c18] at k; exact k
  rw [fWith, c8, c18] at k
  obtain ⟨g, hg, rfl⟩ := inN_t (by omega) c8
  obtain ⟨m, -, hm, rfl⟩ := btw_t (by decide) c18
  rw [nI_clamp (by omega), nI_clamp (by omega)] at k
  refine wp_aload_n (pc := 24) (i := 0) dX6_withWhom_24 rfl rfl ?_
  refine wp_gfr (pc := 25) fk_X6_26 dX6_withWhom_25 rfl rfl (by decide) ?_
  refine wp_iload_n (pc := 28) (i := 1) dX6_withWhom_28 rfl rfl ?_
  refine wp_iload_n (pc := 29) (i := 2) dX6_withWhom_29 rfl rfl ?_
  refine wp_cV2i (pc := 30) lk_X6_196 dX6_withWhom_30 rfl rfl rfl (sp_hostOf isT_27 hW hO hg (by omega) ?_)
  refine wp_iret (pc := 33) dX6_withWhom_33 rfl ?_
  rotate_left
  exact k
theorem sd_whole {x : Int32} {K : Int32 → Hp → Prop} (hW : TW h 27 T) (hO : OKT T) (hz : 0 < T 0 → 0 < T 1) (hd : T 4 ≤ 999) (k : ∀ h', SC h h' → K (fWhole T x) h') : Call G (d + 5) mX6_whole [.ref 0, .int x] h (pI K) := by
  obtain ⟨o0, o1, o2, o3, o4, o5, o6, o7, o8⟩ := id hO
  refine Call.of (M := mX6_whole) (n := 0) (by decide +kernel) rfl ?_
  show WP _ _ _ _ 0 [some (.ref 0), some (.int x)] [] _
  refine wp_aload_n (pc := 0) (i := 0) dX6_whole_0 rfl rfl ?_
  refine wp_gfr (pc := 1) fk_X6_26 dX6_whole_1 rfl rfl (by decide) ?_
  refine wp_iload_n (pc := 4) (i := 1) dX6_whole_4 rfl rfl ?_
  refine wp_cV1i (pc := 5) lk_X6_174 dX6_whole_5 rfl rfl rfl (sp_hasChild isT_27 hW hO ?_)
  first | (with_reducible show WP _ _ _ _ _ _ (Value.int (bI _) :: _) _; refine wp_if_neB (pc := 8) (tgt := 14) dX6_whole_8 (by decide) (fun c8 => ?_) (fun c8 => ?_)) | (with_reducible show WP _ _ _ _ _ _ (Value.int (nI _) :: _) _; refine wp_if_neN (pc := 8) (tgt := 14) dX6_whole_8 (by decide) (by omega) (fun c8 => ?_) (fun c8 => ?_)) | refine wp_if_ne (pc := 8) (tgt := 14) dX6_whole_8 (by decide) (fun c8 => ?_) (fun c8 => ?_)
  rotate_left
  refine wp_ldc (pc := 11) kn_X6_78 dX6_whole_11 ?_
  refine wp_iret (pc := 13) dX6_whole_13 rfl ?_
  rotate_left
  rotate_left
  · rw [fWhole, c8] at k; exact k h (SC.rf h)
  rw [fWhole, c8] at k
  obtain ⟨c, hc, rfl⟩ := inN_t (by omega) c8
  rw [nI_clamp (by omega)] at k
  refine wp_aload_n (pc := 14) (i := 0) dX6_whole_14 rfl rfl ?_
  refine wp_cV0v (pc := 15) lk_X6_212 dX6_whole_15 rfl rfl rfl (sp_openTrial hW hO (fun h1 hW1 hf1 => ?_))
  refine wp_aload_n (pc := 18) (i := 0) dX6_whole_18 rfl rfl ?_
  refine wp_gfr (pc := 19) fk_X6_30 dX6_whole_19 rfl rfl (by decide) ?_
  refine wp_iload_n (pc := 22) (i := 1) dX6_whole_22 rfl rfl ?_
  refine wp_cV1i (pc := 23) lk_X6_219 dX6_whole_23 rfl rfl rfl (sp_daysToWhole isT_39 hW1 hO hc (hz (by omega)) (by omega) (fun h2 hF2 => ?_))
  refine wp_iret (pc := 26) dX6_whole_26 rfl ?_
  rotate_left
  exact k h2 ((SC.tri hf1).tr (SC.fr hF2))
theorem sd_hungry {x : Int32} {K : Int32 → Hp → Prop} (hW : TW h 27 T) (hO : OKT T) (hz : 0 < T 0 → 0 < T 1) (hd : T 4 ≤ 999) (k : ∀ h', SC h h' → K (fHungry T x) h') : Call G (d + 5) mX6_hungry [.ref 0, .int x] h (pI K) := by
  obtain ⟨o0, o1, o2, o3, o4, o5, o6, o7, o8⟩ := id hO
  refine Call.of (M := mX6_hungry) (n := 1) (by decide +kernel) rfl ?_
  show WP _ _ _ _ 0 [some (.ref 0), some (.int x), none] [] _
  refine wp_aload_n (pc := 0) (i := 0) dX6_hungry_0 rfl rfl ?_
  refine wp_gfr (pc := 1) fk_X6_26 dX6_hungry_1 rfl rfl (by decide) ?_
  refine wp_iload_n (pc := 4) (i := 1) dX6_hungry_4 rfl rfl ?_
  refine wp_cV1i (pc := 5) lk_X6_174 dX6_hungry_5 rfl rfl rfl (sp_hasChild isT_27 hW hO ?_)
  first | (with_reducible show WP _ _ _ _ _ _ (Value.int (bI _) :: _) _; refine wp_if_neB (pc := 8) (tgt := 14) dX6_hungry_8 (by decide) (fun c8 => ?_) (fun c8 => ?_)) | (with_reducible show WP _ _ _ _ _ _ (Value.int (nI _) :: _) _; refine wp_if_neN (pc := 8) (tgt := 14) dX6_hungry_8 (by decide) (by omega) (fun c8 => ?_) (fun c8 => ?_)) | refine wp_if_ne (pc := 8) (tgt := 14) dX6_hungry_8 (by decide) (fun c8 => ?_) (fun c8 => ?_)
  rotate_left
  refine wp_ldc (pc := 11) kn_X6_78 dX6_hungry_11 ?_
  refine wp_iret (pc := 13) dX6_hungry_13 rfl ?_
  rotate_left
  rotate_left
  · rw [fHungry, c8] at k; exact k h (SC.rf h)
  rw [fHungry, c8] at k
  obtain ⟨c, hc, rfl⟩ := inN_t (by omega) c8
  rw [nI_clamp (by omega)] at k
  have h0 := hz (by omega)
  have loop : ∀ m i h1, i + m = 61 → SC h h1 → TW h1 39 (itP T i) → (hgr T c 0 61 = hgr T c i m) → WP G (d + 5) mX6_hungry (pI K) 20 [some (.ref 0), some (.int (nI c)), some (.int (nI i))] [] h1 := by
    intro m
    induction m with
    | zero =>
      intro i h1 him hF hW1 hw
      refine wp_iload_n (pc := 20) (i := 2) dX6_hungry_20 rfl rfl ?_
      refine wp_bipush (pc := 21) (v := nI 60) dX6_hungry_21 rfl ?_
      first | (with_reducible show WP _ _ _ _ _ _ (Value.int (nI _) :: Value.int (nI _) :: _) _; refine wp_icmp_gtN (pc := 23) (tgt := 53) dX6_hungry_23 (by decide) (by omega) (by omega) (fun c23 => ?_) (fun c23 => ?_)) | refine wp_icmp_gt (pc := 23) (tgt := 53) dX6_hungry_23 (by decide) (fun c23 => ?_) (fun c23 => ?_)
      refine wp_ldc (pc := 53) kn_X6_222 dX6_hungry_53 ?_
      refine wp_iret (pc := 55) dX6_hungry_55 rfl ?_
      rotate_left
      rotate_left
      · rw [hw] at k; exact k h1 hF
      · exact absurd him (by omega)
    | succ m ih =>
      intro i h1 him hF hW1 hw
      obtain ⟨a, b, e⟩ := itP_keep hO h0 i (by omega)
      have e0 := e 0 (by omega)
      have r5 : h1 40 c = nI (itP T i (5 + c)) := hW1.2.2.2.2.2.1 c (by omega)
      have b5 := (a.2.2.2.2.2.2.1 c (by omega)).1
      refine wp_iload_n (pc := 20) (i := 2) dX6_hungry_20 rfl rfl ?_
      refine wp_bipush (pc := 21) (v := nI 60) dX6_hungry_21 rfl ?_
      first | (with_reducible show WP _ _ _ _ _ _ (Value.int (nI _) :: Value.int (nI _) :: _) _; refine wp_icmp_gtN (pc := 23) (tgt := 53) dX6_hungry_23 (by decide) (by omega) (by omega) (fun c23 => ?_) (fun c23 => ?_)) | refine wp_icmp_gt (pc := 23) (tgt := 53) dX6_hungry_23 (by decide) (fun c23 => ?_) (fun c23 => ?_)
      rotate_left
      refine wp_aload_n (pc := 26) (i := 0) dX6_hungry_26 rfl rfl ?_
      refine wp_gfr (pc := 27) fk_X6_30 dX6_hungry_27 rfl rfl (by decide) ?_
      refine wp_gfr (pc := 30) fk_X6_203 dX6_hungry_30 rfl rfl (by decide) ?_
      refine wp_iload_n (pc := 33) (i := 1) dX6_hungry_33 rfl rfl ?_
      first | (with_reducible show WP _ _ _ _ _ _ (Value.int (nI _) :: _) _; refine wp_ialdN (pc := 34) dX6_hungry_34 rfl (by omega) (by first | with_reducible assumption | with_reducible exact hs_same _ _ _ _ | rfl) ?_) | refine wp_iald (pc := 34) dX6_hungry_34 rfl (by assumption) rfl ?_
      first | (with_reducible show WP _ _ _ _ _ _ (Value.int (bI _) :: _) _; refine wp_if_neB (pc := 35) (tgt := 40) dX6_hungry_35 (by decide) (fun c35 => ?_) (fun c35 => ?_)) | (with_reducible show WP _ _ _ _ _ _ (Value.int (nI _) :: _) _; refine wp_if_neN (pc := 35) (tgt := 40) dX6_hungry_35 (by decide) (by omega) (fun c35 => ?_) (fun c35 => ?_)) | refine wp_if_ne (pc := 35) (tgt := 40) dX6_hungry_35 (by decide) (fun c35 => ?_) (fun c35 => ?_)
      refine wp_aload_n (pc := 40) (i := 0) dX6_hungry_40 rfl rfl ?_
      refine wp_gfr (pc := 41) fk_X6_30 dX6_hungry_41 rfl rfl (by decide) ?_
      refine wp_cV0v (pc := 44) lk_X6_165 dX6_hungry_44 rfl rfl rfl (sp_passDay isT_39 hW1 a (by rw [e 1 (by omega)]; exact h0) (by omega) (fun h2 hW2 hF2 => ?_))
      first | refine wp_iincN (pc := 47) (i := 2) (n := 1) dX6_hungry_47 rfl rfl (by decide) rfl ?_ | refine wp_iinc (pc := 47) (i := 2) dX6_hungry_47 rfl rfl rfl (by decide) rfl ?_
      dsimp only [List.set_cons_zero, List.set_cons_succ]
      refine wp_goto (pc := 50) (tgt := 20) dX6_hungry_50 (by decide) ?_
      rotate_left
      refine wp_iload_n (pc := 38) (i := 2) dX6_hungry_38 rfl rfl ?_
      refine wp_iret (pc := 39) dX6_hungry_39 rfl ?_
      rotate_left
      · exact absurd c23 (by omega)
      · refine ih (i + 1) h2 (by omega) (hF.tr (SC.fr hF2)) hW2 ?_
        rw [hw, hgr, if_neg c35]
      · rw [hw, hgr, if_pos c35] at k; exact k h1 hF
  refine wp_aload_n (pc := 14) (i := 0) dX6_hungry_14 rfl rfl ?_
  refine wp_cV0v (pc := 15) lk_X6_212 dX6_hungry_15 rfl rfl rfl (sp_openTrial hW hO (fun h1 hW1 hf1 => ?_))
  refine wp_iconst (pc := 18) (v := nI 0) dX6_hungry_18 rfl ?_
  refine wp_istore_n (pc := 19) (i := 2) dX6_hungry_19 rfl rfl (by decide) rfl ?_
  dsimp only [List.set_cons_zero, List.set_cons_succ]
  rotate_left
  exact loop 61 0 h1 (by omega) (SC.tri hf1) hW1 rfl
theorem sd_without {n : Int32} {K : Int32 → Hp → Prop} (hW : TW h 27 T) (hO : OKT T) (k : ∀ h', SC h h' → K (fWithout T n) h') : Call G (d + 4) mX6_without [.ref 0, .int n] h (pI K) := by
  obtain ⟨o0, o1, o2, o3, o4, o5, o6, o7, o8⟩ := id hO
  refine Call.of (M := mX6_without) (n := 0) (by decide +kernel) rfl ?_
  show WP _ _ _ _ 0 [some (.ref 0), some (.int n)] [] _
  refine wp_aload_n (pc := 0) (i := 0) dX6_without_0 rfl rfl ?_
  refine wp_cV0i (pc := 1) lk_X6_154 dX6_without_1 rfl rfl rfl (sp_noTown hW hO ?_)
  first | (with_reducible show WP _ _ _ _ _ _ (Value.int (bI _) :: _) _; refine wp_if_eqB (pc := 4) (tgt := 10) dX6_without_4 (by decide) (fun c4 => ?_) (fun c4 => ?_)) | (with_reducible show WP _ _ _ _ _ _ (Value.int (nI _) :: _) _; refine wp_if_eqN (pc := 4) (tgt := 10) dX6_without_4 (by decide) (by omega) (fun c4 => ?_) (fun c4 => ?_)) | refine wp_if_eq (pc := 4) (tgt := 10) dX6_without_4 (by decide) (fun c4 => ?_) (fun c4 => ?_)
  refine wp_iload_n (pc := 10) (i := 1) dX6_without_10 rfl rfl ?_
  refine wp_iconst (pc := 11) (v := nI 1) dX6_without_11 rfl ?_
  refine wp_bipush (pc := 12) (v := nI 60) dX6_without_12 rfl ?_
  refine wp_cS3i (pc := 14) lk_X6_74 dX6_without_14 rfl (sp_btw (by decide) (by decide) ?_)
  first | (with_reducible show WP _ _ _ _ _ _ (Value.int (bI _) :: _) _; refine wp_if_neB (pc := 17) (tgt := 23) dX6_without_17 (by decide) (fun c17 => ?_) (fun c17 => ?_)) | (with_reducible show WP _ _ _ _ _ _ (Value.int (nI _) :: _) _; refine wp_if_neN (pc := 17) (tgt := 23) dX6_without_17 (by decide) (by omega) (fun c17 => ?_) (fun c17 => ?_)) | refine wp_if_ne (pc := 17) (tgt := 23) dX6_without_17 (by decide) (fun c17 => ?_) (fun c17 => ?_)
  rotate_left
  refine wp_ldc (pc := 20) kn_X6_78 dX6_without_20 ?_
  refine wp_iret (pc := 22) dX6_without_22 rfl ?_
  rotate_left
  refine wp_ldc (pc := 7) kn_X6_153 dX6_without_7 ?_
  refine wp_iret (pc := 9) dX6_without_9 rfl ?_
  rotate_left
  · have c4 := of_decide_eq_false c4
    rw [fWithout, if_neg c4, c17] at k
    obtain ⟨m, -, hm, rfl⟩ := btw_t (by decide) c17
    rw [nI_clamp (by omega)] at k
    refine wp_aload_n (pc := 23) (i := 0) dX6_without_23 rfl rfl ?_
    refine wp_gfr (pc := 24) fk_X6_26 dX6_without_24 rfl rfl (by decide) ?_
    refine wp_cV0i (pc := 27) lk_X6_223 dX6_without_27 rfl rfl rfl (sp_allChildren isT_27 hW hO ?_)
    refine wp_aload_n (pc := 30) (i := 0) dX6_without_30 rfl rfl ?_
    refine wp_gfr (pc := 31) fk_X6_26 dX6_without_31 rfl rfl (by decide) ?_
    refine wp_iload_n (pc := 34) (i := 1) dX6_without_34 rfl rfl ?_
    refine wp_cV1i (pc := 35) lk_X6_226 dX6_without_35 rfl rfl rfl (sp_servedIn isT_27 hW hO (by omega) (fun h1 hW1 hF1 hs1 => ?_))
    refine wp_iconst (pc := 38) (v := kM1) dX6_without_38 rfl ?_
    first | (with_reducible show WP _ _ _ _ _ _ (Value.int (nI _) :: Value.int (nI _) :: _) _; refine wp_ixorN (pc := 39) dX6_without_39 ?_) | refine wp_ixor (pc := 39) dX6_without_39 ?_
    first | (with_reducible show WP _ _ _ _ _ _ (Value.int (nI _) :: Value.int (nI _) :: _) _; refine wp_iandN (pc := 40) dX6_without_40 ?_) | refine wp_iand (pc := 40) dX6_without_40 ?_
    refine wp_iret (pc := 41) dX6_without_41 rfl ?_
    rotate_left
    exact k h1 (fun a ha => hs1 a (by omega) (by omega))
  · rw [fWithout, if_neg (of_decide_eq_false c4), c17] at k; exact k h (SC.rf h)
  · rw [fWithout, if_pos (of_decide_eq_true c4)] at k; exact k h (SC.rf h)
theorem sd_meets {x y : Int32} {K : Int32 → Hp → Prop} (hW : TW h 27 T) (hO : OKT T) (k : K (fMeets T x y) h) : Call G (d + 1) mX6_meets [.ref 0, .int x, .int y] h (pI K) := by
  obtain ⟨o0, o1, o2, o3, o4, o5, o6, o7, o8⟩ := id hO
  refine Call.of (M := mX6_meets) (n := 2) (by decide +kernel) rfl ?_
  show WP _ _ _ _ 0 [some (.ref 0), some (.int x), some (.int y), none, none] [] _
  refine wp_aload_n (pc := 0) (i := 0) dX6_meets_0 rfl rfl ?_
  refine wp_gfr (pc := 1) fk_X6_26 dX6_meets_1 rfl rfl (by decide) ?_
  refine wp_iload_n (pc := 4) (i := 1) dX6_meets_4 rfl rfl ?_
  refine wp_cV1i (pc := 5) lk_X6_168 dX6_meets_5 rfl rfl rfl (sp_hasGran isT_27 hW hO ?_)
  first | (with_reducible show WP _ _ _ _ _ _ (Value.int (bI _) :: _) _; refine wp_if_eqB (pc := 8) (tgt := 27) dX6_meets_8 (by decide) (fun c8 => ?_) (fun c8 => ?_)) | (with_reducible show WP _ _ _ _ _ _ (Value.int (nI _) :: _) _; refine wp_if_eqN (pc := 8) (tgt := 27) dX6_meets_8 (by decide) (by omega) (fun c8 => ?_) (fun c8 => ?_)) | refine wp_if_eq (pc := 8) (tgt := 27) dX6_meets_8 (by decide) (fun c8 => ?_) (fun c8 => ?_)
  refine wp_ldc (pc := 27) kn_X6_78 dX6_meets_27 ?_
  refine wp_iret (pc := 29) dX6_meets_29 rfl ?_
  rotate_left
  refine wp_aload_n (pc := 11) (i := 0) dX6_meets_11 rfl rfl ?_
  refine wp_gfr (pc := 12) fk_X6_26 dX6_meets_12 rfl rfl (by decide) ?_
  refine wp_iload_n (pc := 15) (i := 2) dX6_meets_15 rfl rfl ?_
  refine wp_cV1i (pc := 16) lk_X6_168 dX6_meets_16 rfl rfl rfl (sp_hasGran isT_27 hW hO ?_)
  first | (with_reducible show WP _ _ _ _ _ _ (Value.int (bI _) :: _) _; refine wp_if_eqB (pc := 19) (tgt := 27) dX6_meets_19 (by decide) (fun c19 => ?_) (fun c19 => ?_)) | (with_reducible show WP _ _ _ _ _ _ (Value.int (nI _) :: _) _; refine wp_if_eqN (pc := 19) (tgt := 27) dX6_meets_19 (by decide) (by omega) (fun c19 => ?_) (fun c19 => ?_)) | refine wp_if_eq (pc := 19) (tgt := 27) dX6_meets_19 (by decide) (fun c19 => ?_) (fun c19 => ?_)
  refine wp_ldc (pc := 27) kn_X6_78 dX6_meets_27 ?_
  refine wp_iret (pc := 29) dX6_meets_29 rfl ?_
  rotate_left
  rotate_left
  · rw [fMeets, c8] at k; exact k
  · rw [fMeets, c8, c19] at k; exact k
  rw [fMeets, c8, c19] at k
  refine wp_iload_n (pc := 22) (i := 1) dX6_meets_22 rfl rfl ?_
  refine wp_iload_n (pc := 23) (i := 2) dX6_meets_23 rfl rfl ?_
  refine wp_icmp_ne (pc := 24) (tgt := 30) dX6_meets_24 (by decide) (fun c24 => ?_) (fun c24 => ?_)
  rotate_left
  · refine wp_ldc (pc := 27) kn_X6_78 dX6_meets_27 ?_
    refine wp_iret (pc := 29) dX6_meets_29 rfl ?_
    rotate_left
    rw [decide_eq_false (fun q => q c24)] at k; exact k
  rw [decide_eq_true c24] at k
  obtain ⟨g, hg, rfl⟩ := inN_t (by omega) c8
  obtain ⟨o, ho, rfl⟩ := inN_t (by omega) c19
  rw [nI_clamp (by omega), nI_clamp (by omega)] at k
  have p0 := (o5 (by omega)).1
  have loop : ∀ m i, i + m = 61 → (mts T g o 0 61 = mts T g o i m) → ∀ L4, WP G (d + 1) mX6_meets (pI K) 32 [some (.ref 0), some (.int (nI g)), some (.int (nI o)), some (.int (nI i)), L4] [] h := by
    intro m
    induction m with
    | zero =>
      intro i him hw L4
      refine wp_iload_n (pc := 32) (i := 3) dX6_meets_32 rfl rfl ?_
      refine wp_bipush (pc := 33) (v := nI 60) dX6_meets_33 rfl ?_
      first | (with_reducible show WP _ _ _ _ _ _ (Value.int (nI _) :: Value.int (nI _) :: _) _; refine wp_icmp_gtN (pc := 35) (tgt := 78) dX6_meets_35 (by decide) (by omega) (by omega) (fun c35 => ?_) (fun c35 => ?_)) | refine wp_icmp_gt (pc := 35) (tgt := 78) dX6_meets_35 (by decide) (fun c35 => ?_) (fun c35 => ?_)
      refine wp_ldc (pc := 78) kn_X6_222 dX6_meets_78 ?_
      refine wp_iret (pc := 80) dX6_meets_80 rfl ?_
      rotate_left
      rotate_left
      · rw [hw] at k; exact k
      · exact absurd him (by omega)
    | succ m ih =>
      intro i him hw L4
      rw [show mts T g o i (m + 1) = (if (wt T i g).isSome && decide (wt T i g = wt T i o) then some i else mts T g o (i + 1) m) from rfl] at hw
      rcases hg1 : wt T i g with _ | c
      · rw [hg1] at hw
        refine wp_iload_n (pc := 32) (i := 3) dX6_meets_32 rfl rfl ?_
        refine wp_bipush (pc := 33) (v := nI 60) dX6_meets_33 rfl ?_
        first | (with_reducible show WP _ _ _ _ _ _ (Value.int (nI _) :: Value.int (nI _) :: _) _; refine wp_icmp_gtN (pc := 35) (tgt := 78) dX6_meets_35 (by decide) (by omega) (by omega) (fun c35 => ?_) (fun c35 => ?_)) | refine wp_icmp_gt (pc := 35) (tgt := 78) dX6_meets_35 (by decide) (fun c35 => ?_) (fun c35 => ?_)
        rotate_left
        refine wp_aload_n (pc := 38) (i := 0) dX6_meets_38 rfl rfl ?_
        refine wp_gfr (pc := 39) fk_X6_26 dX6_meets_39 rfl rfl (by decide) ?_
        refine wp_iload_n (pc := 42) (i := 1) dX6_meets_42 rfl rfl ?_
        refine wp_iload_n (pc := 43) (i := 3) dX6_meets_43 rfl rfl ?_
        refine wp_cV2i (pc := 44) lk_X6_196 dX6_meets_44 rfl rfl rfl (sp_hostN isT_27 hW hO hg (by omega) hg1 ?_)
        refine wp_istore (pc := 47) (i := 4) dX6_meets_47 rfl (by decide) rfl ?_
        dsimp only [List.set_cons_zero, List.set_cons_succ]
        refine wp_iload (pc := 49) (i := 4) dX6_meets_49 rfl ?_
        refine wp_ldc (pc := 51) kn_X6_222 dX6_meets_51 ?_
        first | (with_reducible show WP _ _ _ _ _ _ (Value.int (nI _) :: Value.int (nI _) :: _) _; refine wp_icmp_eqN (pc := 53) (tgt := 72) dX6_meets_53 (by decide) (by omega) (by omega) (fun c53 => ?_) (fun c53 => ?_)) | refine wp_icmp_eq (pc := 53) (tgt := 72) dX6_meets_53 (by decide) (fun c53 => ?_) (fun c53 => ?_)
        first | refine wp_iincN (pc := 72) (i := 3) (n := 1) dX6_meets_72 rfl rfl (by decide) rfl ?_ | refine wp_iinc (pc := 72) (i := 3) dX6_meets_72 rfl rfl rfl (by decide) rfl ?_
        dsimp only [List.set_cons_zero, List.set_cons_succ]
        refine wp_goto (pc := 75) (tgt := 32) dX6_meets_75 (by decide) ?_
        rotate_left
        rotate_left
        · exact absurd c35 (by omega)
        · exact ih (i + 1) (by omega) hw _
        · exact absurd rfl c53
      · rw [hg1] at hw
        have hc := wt_lt p0 hg1
        rcases ho1 : wt T i o with _ | e
        · rw [ho1] at hw
          refine wp_iload_n (pc := 32) (i := 3) dX6_meets_32 rfl rfl ?_
          refine wp_bipush (pc := 33) (v := nI 60) dX6_meets_33 rfl ?_
          first | (with_reducible show WP _ _ _ _ _ _ (Value.int (nI _) :: Value.int (nI _) :: _) _; refine wp_icmp_gtN (pc := 35) (tgt := 78) dX6_meets_35 (by decide) (by omega) (by omega) (fun c35 => ?_) (fun c35 => ?_)) | refine wp_icmp_gt (pc := 35) (tgt := 78) dX6_meets_35 (by decide) (fun c35 => ?_) (fun c35 => ?_)
          rotate_left
          refine wp_aload_n (pc := 38) (i := 0) dX6_meets_38 rfl rfl ?_
          refine wp_gfr (pc := 39) fk_X6_26 dX6_meets_39 rfl rfl (by decide) ?_
          refine wp_iload_n (pc := 42) (i := 1) dX6_meets_42 rfl rfl ?_
          refine wp_iload_n (pc := 43) (i := 3) dX6_meets_43 rfl rfl ?_
          refine wp_cV2i (pc := 44) lk_X6_196 dX6_meets_44 rfl rfl rfl (sp_hostS isT_27 hW hO hg (by omega) hg1 ?_)
          refine wp_istore (pc := 47) (i := 4) dX6_meets_47 rfl (by decide) rfl ?_
          dsimp only [List.set_cons_zero, List.set_cons_succ]
          refine wp_iload (pc := 49) (i := 4) dX6_meets_49 rfl ?_
          refine wp_ldc (pc := 51) kn_X6_222 dX6_meets_51 ?_
          first | (with_reducible show WP _ _ _ _ _ _ (Value.int (nI _) :: Value.int (nI _) :: _) _; refine wp_icmp_eqN (pc := 53) (tgt := 72) dX6_meets_53 (by decide) (by omega) (by omega) (fun c53 => ?_) (fun c53 => ?_)) | refine wp_icmp_eq (pc := 53) (tgt := 72) dX6_meets_53 (by decide) (fun c53 => ?_) (fun c53 => ?_)
          first | refine wp_iincN (pc := 72) (i := 3) (n := 1) dX6_meets_72 rfl rfl (by decide) rfl ?_ | refine wp_iinc (pc := 72) (i := 3) dX6_meets_72 rfl rfl rfl (by decide) rfl ?_
          dsimp only [List.set_cons_zero, List.set_cons_succ]
          refine wp_goto (pc := 75) (tgt := 32) dX6_meets_75 (by decide) ?_
          rotate_left
          refine wp_iload (pc := 56) (i := 4) dX6_meets_56 rfl ?_
          refine wp_aload_n (pc := 58) (i := 0) dX6_meets_58 rfl rfl ?_
          refine wp_gfr (pc := 59) fk_X6_26 dX6_meets_59 rfl rfl (by decide) ?_
          refine wp_iload_n (pc := 62) (i := 2) dX6_meets_62 rfl rfl ?_
          refine wp_iload_n (pc := 63) (i := 3) dX6_meets_63 rfl rfl ?_
          refine wp_cV2i (pc := 64) lk_X6_196 dX6_meets_64 rfl rfl rfl (sp_hostN isT_27 hW hO ho (by omega) ho1 ?_)
          first | (with_reducible show WP _ _ _ _ _ _ (Value.int (nI _) :: Value.int (nI _) :: _) _; refine wp_icmp_neN (pc := 67) (tgt := 72) dX6_meets_67 (by decide) (by omega) (by omega) (fun c67 => ?_) (fun c67 => ?_)) | refine wp_icmp_ne (pc := 67) (tgt := 72) dX6_meets_67 (by decide) (fun c67 => ?_) (fun c67 => ?_)
          first | refine wp_iincN (pc := 72) (i := 3) (n := 1) dX6_meets_72 rfl rfl (by decide) rfl ?_ | refine wp_iinc (pc := 72) (i := 3) dX6_meets_72 rfl rfl rfl (by decide) rfl ?_
          dsimp only [List.set_cons_zero, List.set_cons_succ]
          refine wp_goto (pc := 75) (tgt := 32) dX6_meets_75 (by decide) ?_
          rotate_left
          refine wp_iload_n (pc := 70) (i := 3) dX6_meets_70 rfl rfl ?_
          refine wp_iret (pc := 71) dX6_meets_71 rfl ?_
          rotate_left
          · exact absurd c35 (by omega)
          · exact absurd c53 (nI_none (by omega))
          · exact ih (i + 1) (by omega) (by simpa using hw) _
          · exact absurd c67 (nI_none (by omega))
        · rw [ho1] at hw
          have he := wt_lt p0 ho1
          refine wp_iload_n (pc := 32) (i := 3) dX6_meets_32 rfl rfl ?_
          refine wp_bipush (pc := 33) (v := nI 60) dX6_meets_33 rfl ?_
          first | (with_reducible show WP _ _ _ _ _ _ (Value.int (nI _) :: Value.int (nI _) :: _) _; refine wp_icmp_gtN (pc := 35) (tgt := 78) dX6_meets_35 (by decide) (by omega) (by omega) (fun c35 => ?_) (fun c35 => ?_)) | refine wp_icmp_gt (pc := 35) (tgt := 78) dX6_meets_35 (by decide) (fun c35 => ?_) (fun c35 => ?_)
          rotate_left
          refine wp_aload_n (pc := 38) (i := 0) dX6_meets_38 rfl rfl ?_
          refine wp_gfr (pc := 39) fk_X6_26 dX6_meets_39 rfl rfl (by decide) ?_
          refine wp_iload_n (pc := 42) (i := 1) dX6_meets_42 rfl rfl ?_
          refine wp_iload_n (pc := 43) (i := 3) dX6_meets_43 rfl rfl ?_
          refine wp_cV2i (pc := 44) lk_X6_196 dX6_meets_44 rfl rfl rfl (sp_hostS isT_27 hW hO hg (by omega) hg1 ?_)
          refine wp_istore (pc := 47) (i := 4) dX6_meets_47 rfl (by decide) rfl ?_
          dsimp only [List.set_cons_zero, List.set_cons_succ]
          refine wp_iload (pc := 49) (i := 4) dX6_meets_49 rfl ?_
          refine wp_ldc (pc := 51) kn_X6_222 dX6_meets_51 ?_
          first | (with_reducible show WP _ _ _ _ _ _ (Value.int (nI _) :: Value.int (nI _) :: _) _; refine wp_icmp_eqN (pc := 53) (tgt := 72) dX6_meets_53 (by decide) (by omega) (by omega) (fun c53 => ?_) (fun c53 => ?_)) | refine wp_icmp_eq (pc := 53) (tgt := 72) dX6_meets_53 (by decide) (fun c53 => ?_) (fun c53 => ?_)
          first | refine wp_iincN (pc := 72) (i := 3) (n := 1) dX6_meets_72 rfl rfl (by decide) rfl ?_ | refine wp_iinc (pc := 72) (i := 3) dX6_meets_72 rfl rfl rfl (by decide) rfl ?_
          dsimp only [List.set_cons_zero, List.set_cons_succ]
          refine wp_goto (pc := 75) (tgt := 32) dX6_meets_75 (by decide) ?_
          rotate_left
          refine wp_iload (pc := 56) (i := 4) dX6_meets_56 rfl ?_
          refine wp_aload_n (pc := 58) (i := 0) dX6_meets_58 rfl rfl ?_
          refine wp_gfr (pc := 59) fk_X6_26 dX6_meets_59 rfl rfl (by decide) ?_
          refine wp_iload_n (pc := 62) (i := 2) dX6_meets_62 rfl rfl ?_
          refine wp_iload_n (pc := 63) (i := 3) dX6_meets_63 rfl rfl ?_
          refine wp_cV2i (pc := 64) lk_X6_196 dX6_meets_64 rfl rfl rfl (sp_hostS isT_27 hW hO ho (by omega) ho1 ?_)
          first | (with_reducible show WP _ _ _ _ _ _ (Value.int (nI _) :: Value.int (nI _) :: _) _; refine wp_icmp_neN (pc := 67) (tgt := 72) dX6_meets_67 (by decide) (by omega) (by omega) (fun c67 => ?_) (fun c67 => ?_)) | refine wp_icmp_ne (pc := 67) (tgt := 72) dX6_meets_67 (by decide) (fun c67 => ?_) (fun c67 => ?_)
          first | refine wp_iincN (pc := 72) (i := 3) (n := 1) dX6_meets_72 rfl rfl (by decide) rfl ?_ | refine wp_iinc (pc := 72) (i := 3) dX6_meets_72 rfl rfl rfl (by decide) rfl ?_
          dsimp only [List.set_cons_zero, List.set_cons_succ]
          refine wp_goto (pc := 75) (tgt := 32) dX6_meets_75 (by decide) ?_
          rotate_left
          refine wp_iload_n (pc := 70) (i := 3) dX6_meets_70 rfl rfl ?_
          refine wp_iret (pc := 71) dX6_meets_71 rfl ?_
          rotate_left
          · exact absurd c35 (by omega)
          · exact absurd c53 (nI_none (by omega))
          · refine ih (i + 1) (by omega) ?_ _
            rw [decide_eq_false (fun q => c67 (Option.some.inj q))] at hw
            simpa using hw
          · rw [decide_eq_true (congrArg some c67)] at hw
            have hw2 : mts T g o 0 61 = some i := by simpa using hw
            rw [hw2] at k; exact k
  refine wp_iconst (pc := 30) (v := nI 0) dX6_meets_30 rfl ?_
  refine wp_istore_n (pc := 31) (i := 3) dX6_meets_31 rfl rfl (by decide) rfl ?_
  dsimp only [List.set_cons_zero, List.set_cons_succ]
  rotate_left
  exact loop 61 0 (by omega) rfl _
end DASK
