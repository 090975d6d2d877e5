/-! two who would better swap -/
def anyU (f : Nat → Bool) : Nat → Bool
  | 0 => false
  | n + 1 => anyU f n || f n
theorem anyU_t {f : Nat → Bool} {c : Nat} (h : f c = true) : ∀ n, c < n → anyU f n = true
  | n + 1, hn => by
    show (anyU f n || f n) = true
    by_cases z : c = n
    · rw [← z, h, Bool.or_true]
    · rw [anyU_t h n (by omega)]; rfl
def swT (T : Tn) (a b : Nat) : Tn := up (up T (32 + a) (T (32 + b))) (32 + b) (T (32 + a))
def sgt (T : Tn) (n a b c : Nat) : Bool := decide (itP T n (5 + c) < itP (swT T a b) n (5 + c))
def slt (T : Tn) (n a b c : Nat) : Bool := decide (itP (swT T a b) n (5 + c) < itP T n (5 + c))
def good (T : Tn) (n a b : Nat) : Bool := anyU (sgt T n a b) (T 0) && !anyU (slt T n a b) (T 0)
def comb (x y : Nat × Option Nat) : Nat × Option Nat := (x.1 + y.1, x.2.or y.2)
def g1 (T : Tn) (n a b : Nat) : Nat × Option Nat := if good T n a b then (1, some (10 * a + b)) else (0, none)
def ci (T : Tn) (n a : Nat) : Nat → Nat → Nat × Option Nat
  | _, 0 => (0, none)
  | b, m + 1 => comb (g1 T n a b) (ci T n a (b + 1) m)
def co (T : Tn) (n : Nat) : Nat → Nat → Nat × Option Nat
  | _, 0 => (0, none)
  | a, m + 1 => comb (ci T n a (a + 1) (T 1 - (a + 1))) (co T n (a + 1) m)
theorem comb_as (x y z : Nat × Option Nat) : comb (comb x y) z = comb x (comb y z) := by
  unfold comb
  rw [Nat.add_assoc, Option.or_assoc]
theorem comb_0 (x : Nat × Option Nat) : comb x (0, none) = x := by unfold comb; rw [Option.or_none]; rfl
theorem comb_0l (x : Nat × Option Nat) : comb (0, none) x = x := by unfold comb; rw [Nat.zero_add, Option.none_or]
def fSwaps (T : Tn) (n w : Int32) : Int32 := if T 1 = 0 then kSTATE else if btw n 1 60 && btw w 0 1 then (if w = nI 0 then nI (co T n.toNatClampNeg 0 (T 1)).1 else oI (co T n.toNatClampNeg 0 (T 1)).2) else kBAD
section DSWAPS
variable {G : Gt} {d : Nat} {h : Hp} {T : Tn}
theorem okt_sw {a b : Nat} (hO : OKT T) (ha : a < T 1) (hb : b < T 1) : OKT (swT T a b) ∧ swT T a b 0 = T 0 ∧ swT T a b 1 = T 1 ∧ swT T a b 4 = T 4 := by
  have k1 := (hO.2.2.2.2.2.2.2.1 a ha).2.2.1
  have k2 := (hO.2.2.2.2.2.2.2.1 b hb).2.2.1
  have o1 := okt_fir hO ha k2
  have e0 : up T (32 + a) (T (32 + b)) 0 = T 0 := up_ne (by omega)
  have e1 : up T (32 + a) (T (32 + b)) 1 = T 1 := up_ne (by omega)
  refine ⟨okt_fir o1 (by rw [e1]; exact hb) (by rw [e0]; exact k1), ?_, ?_, ?_⟩
  all_goals unfold swT; rw [up_ne (by omega), up_ne (by omega)]
theorem sp_isGoodSwap {a b n : Nat} {K : Int32 → Hp → Prop} (hW : TW h 27 T) (hO : OKT T) (ha : a < T 1) (hb : b < T 1) (hn : n ≤ 60) (hd : T 4 ≤ 999) (hu : ∀ c, c < T 0 → h 52 c = nI (itP T n (5 + c))) (k : ∀ h', (∀ q, q < 39 ∨ 51 < q → h' q = h q) → K (bI (good T n a b)) h') : Call G (d + 5) mX6_isGoodSwap [.ref 0, .int (nI a), .int (nI b), .int (nI n)] h (pI K) := by
  obtain ⟨o0, o1, o2, o3, o4, o5, o6, o7, o8⟩ := id hO
  obtain ⟨q1, q2, q3, q4⟩ := okt_sw hO ha hb
  obtain ⟨i1, i2, i3⟩ := itP_keep hO (by omega) n (by omega)
  obtain ⟨j1, j2, j3⟩ := itP_keep q1 (by omega) n (by omega)
  have j0 : itP (swT T a b) n 0 = T 0 := by rw [j3 0 (by omega)]; exact q2
  refine Call.of (M := mX6_isGoodSwap) (n := 2) (by decide +kernel) rfl ?_
  show WP _ _ _ _ 0 [some (.ref 0), some (.int (nI a)), some (.int (nI b)), some (.int (nI n)), none, none] [] _
  refine wp_aload_n (pc := 0) (i := 0) dX6_isGoodSwap_0 rfl rfl ?_
  refine wp_cV0v (pc := 1) lk_X6_212 dX6_isGoodSwap_1 rfl rfl rfl (sp_openTrial hW hO (fun h1 hW1 hf1 => ?_))
  rotate_left
  have s1 : h1 33 b = nI (T (32 + b)) := by rw [hf1 33 (by omega)]; exact hW.2.2.2.2.2.2.2.2.2.2.1 b hb
  have s2 : hs h1 45 a (nI (T (32 + b))) 33 a = nI (T (32 + a)) := by rw [hs_ne (by decide), hf1 33 (by omega)]; exact hW.2.2.2.2.2.2.2.2.2.2.1 a ha
  have w2 := hW1.fir (v := T (32 + b)) hO ha
  have w3 : TW _ 39 (swT T a b) := w2.fir (g := b) (v := T (32 + a)) (okt_fir hO ha (o7 b hb).2.2.1) (by rw [up_ne (by omega)]; exact hb)
  refine wp_aload_n (pc := 4) (i := 0) dX6_isGoodSwap_4 rfl rfl ?_
  refine wp_gfr (pc := 5) fk_X6_30 dX6_isGoodSwap_5 rfl rfl (by decide) ?_
  refine wp_gfr (pc := 8) fk_X6_177 dX6_isGoodSwap_8 rfl rfl (by decide) ?_
  refine wp_iload_n (pc := 11) (i := 1) dX6_isGoodSwap_11 rfl rfl ?_
  refine wp_aload_n (pc := 12) (i := 0) dX6_isGoodSwap_12 rfl rfl ?_
  refine wp_gfr (pc := 13) fk_X6_26 dX6_isGoodSwap_13 rfl rfl (by decide) ?_
  refine wp_gfr (pc := 16) fk_X6_177 dX6_isGoodSwap_16 rfl rfl (by decide) ?_
  refine wp_iload_n (pc := 19) (i := 2) dX6_isGoodSwap_19 rfl rfl ?_
  first | (with_reducible show WP _ _ _ _ _ _ (Value.int (nI _) :: _) _; refine wp_ialdN (pc := 20) dX6_isGoodSwap_20 rfl (by omega) (by first | with_reducible assumption | with_reducible exact hs_same _ _ _ _ | rfl) ?_) | refine wp_iald (pc := 20) dX6_isGoodSwap_20 rfl (by assumption) rfl ?_
  first | (with_reducible show WP _ _ _ _ _ _ (_ :: Value.int (nI _) :: _) _; refine wp_iastN (pc := 21) dX6_isGoodSwap_21 rfl (by omega) ?_) | refine wp_iast (pc := 21) dX6_isGoodSwap_21 rfl (by assumption) rfl ?_
  refine wp_aload_n (pc := 22) (i := 0) dX6_isGoodSwap_22 rfl rfl ?_
  refine wp_gfr (pc := 23) fk_X6_30 dX6_isGoodSwap_23 rfl rfl (by decide) ?_
  refine wp_gfr (pc := 26) fk_X6_177 dX6_isGoodSwap_26 rfl rfl (by decide) ?_
  refine wp_iload_n (pc := 29) (i := 2) dX6_isGoodSwap_29 rfl rfl ?_
  refine wp_aload_n (pc := 30) (i := 0) dX6_isGoodSwap_30 rfl rfl ?_
  refine wp_gfr (pc := 31) fk_X6_26 dX6_isGoodSwap_31 rfl rfl (by decide) ?_
  refine wp_gfr (pc := 34) fk_X6_177 dX6_isGoodSwap_34 rfl rfl (by decide) ?_
  refine wp_iload_n (pc := 37) (i := 1) dX6_isGoodSwap_37 rfl rfl ?_
  first | (with_reducible show WP _ _ _ _ _ _ (Value.int (nI _) :: _) _; refine wp_ialdN (pc := 38) dX6_isGoodSwap_38 rfl (by omega) (by first | with_reducible assumption | with_reducible exact hs_same _ _ _ _ | rfl) ?_) | refine wp_iald (pc := 38) dX6_isGoodSwap_38 rfl (by assumption) rfl ?_
  first | (with_reducible show WP _ _ _ _ _ _ (_ :: Value.int (nI _) :: _) _; refine wp_iastN (pc := 39) dX6_isGoodSwap_39 rfl (by omega) ?_) | refine wp_iast (pc := 39) dX6_isGoodSwap_39 rfl (by assumption) rfl ?_
  refine wp_aload_n (pc := 40) (i := 0) dX6_isGoodSwap_40 rfl rfl ?_
  refine wp_gfr (pc := 41) fk_X6_30 dX6_isGoodSwap_41 rfl rfl (by decide) ?_
  refine wp_iload_n (pc := 44) (i := 3) dX6_isGoodSwap_44 rfl rfl ?_
  refine wp_cV1v (pc := 45) lk_X6_215 dX6_isGoodSwap_45 rfl rfl rfl (sp_passDays isT_39 w3 q1 (by omega) hn (by omega) (fun h2 hW2 hF2 => ?_))
  rotate_left
  have f2 : ∀ q, q < 39 ∨ 51 < q → h2 q = h q := fun q hq => by rw [hF2 q (by omega), hs_ne (by omega), hs_ne (by omega)]; exact hf1 q (by omega)
  have kk := k h2 f2
  have r2 : h2 39 2 = nI (T 0) := by rw [← j0]; exact hW2.2.2.1
  have r5 : ∀ c, c < T 0 → h2 40 c = nI (itP (swT T a b) n (5 + c)) := fun c hc => hW2.2.2.2.2.2.1 c (by show c < itP (swT T a b) n 0; rw [j0]; exact hc)
  have r9 : ∀ c, c < T 0 → h2 52 c = nI (itP T n (5 + c)) := fun c hc => by rw [f2 52 (by omega)]; exact hu c hc
  have loop : ∀ m i, i + m = T 0 → anyU (slt T n a b) i = false → WP G (d + 5) mX6_isGoodSwap (pI K) 54 [some (.ref 0), some (.int (nI a)), some (.int (nI b)), some (.int (nI n)), some (.int (bI (anyU (sgt T n a b) i))), some (.int (nI i))] [] h2 := by
    intro m
    induction m with
    | zero =>
      intro i him hl
      refine wp_iload (pc := 54) (i := 5) dX6_isGoodSwap_54 rfl ?_
      refine wp_aload_n (pc := 56) (i := 0) dX6_isGoodSwap_56 rfl rfl ?_
      refine wp_gfr (pc := 57) fk_X6_30 dX6_isGoodSwap_57 rfl rfl (by decide) ?_
      refine wp_gfv (pc := 60) fk_X6_260 dX6_isGoodSwap_60 rfl rfl (by first | with_reducible assumption | with_reducible exact hs_same _ _ _ _ | rfl) ?_
      first | (with_reducible show WP _ _ _ _ _ _ (Value.int (nI _) :: Value.int (nI _) :: _) _; refine wp_icmp_geN (pc := 63) (tgt := 126) dX6_isGoodSwap_63 (by decide) (by omega) (by omega) (fun c63 => ?_) (fun c63 => ?_)) | refine wp_icmp_ge (pc := 63) (tgt := 126) dX6_isGoodSwap_63 (by decide) (fun c63 => ?_) (fun c63 => ?_)
      refine wp_iload (pc := 126) (i := 4) dX6_isGoodSwap_126 rfl ?_
      refine wp_zret (pc := 128) dX6_isGoodSwap_128 rfl (by first | exact Or.inl rfl | exact Or.inr rfl | assumption | exact bI_01 _) ?_
      rotate_left
      rotate_left
      · rw [good, show T 0 = i by omega, hl, Bool.not_false, Bool.and_true] at kk; exact kk
      · exact absurd him (by omega)
    | succ m ih =>
      intro i him hl
      have x1 := r5 i (by omega)
      have x2 := r9 i (by omega)
      have y1 := (i1.2.2.2.2.2.2.1 i (by omega)).1
      have y2 := (j1.2.2.2.2.2.2.1 i (by omega)).1
      have w := ih (i + 1) (by omega)
      rw [show anyU (slt T n a b) (i + 1) = (anyU (slt T n a b) i || slt T n a b i) from rfl, hl, Bool.false_or, show anyU (sgt T n a b) (i + 1) = (anyU (sgt T n a b) i || sgt T n a b i) from rfl] at w
      refine wp_iload (pc := 54) (i := 5) dX6_isGoodSwap_54 rfl ?_
      refine wp_aload_n (pc := 56) (i := 0) dX6_isGoodSwap_56 rfl rfl ?_
      refine wp_gfr (pc := 57) fk_X6_30 dX6_isGoodSwap_57 rfl rfl (by decide) ?_
      refine wp_gfv (pc := 60) fk_X6_260 dX6_isGoodSwap_60 rfl rfl (by first | with_reducible assumption | with_reducible exact hs_same _ _ _ _ | rfl) ?_
      first | (with_reducible show WP _ _ _ _ _ _ (Value.int (nI _) :: Value.int (nI _) :: _) _; refine wp_icmp_geN (pc := 63) (tgt := 126) dX6_isGoodSwap_63 (by decide) (by omega) (by omega) (fun c63 => ?_) (fun c63 => ?_)) | refine wp_icmp_ge (pc := 63) (tgt := 126) dX6_isGoodSwap_63 (by decide) (fun c63 => ?_) (fun c63 => ?_)
      rotate_left
      refine wp_aload_n (pc := 66) (i := 0) dX6_isGoodSwap_66 rfl rfl ?_
      refine wp_gfr (pc := 67) fk_X6_30 dX6_isGoodSwap_67 rfl rfl (by decide) ?_
      refine wp_gfr (pc := 70) fk_X6_203 dX6_isGoodSwap_70 rfl rfl (by decide) ?_
      refine wp_iload (pc := 73) (i := 5) dX6_isGoodSwap_73 rfl ?_
      first | (with_reducible show WP _ _ _ _ _ _ (Value.int (nI _) :: _) _; refine wp_ialdN (pc := 75) dX6_isGoodSwap_75 rfl (by omega) (by first | with_reducible assumption | with_reducible exact hs_same _ _ _ _ | rfl) ?_) | refine wp_iald (pc := 75) dX6_isGoodSwap_75 rfl (by assumption) rfl ?_
      refine wp_aload_n (pc := 76) (i := 0) dX6_isGoodSwap_76 rfl rfl ?_
      refine wp_gfr (pc := 77) fk_X6_37 dX6_isGoodSwap_77 rfl rfl (by decide) ?_
      refine wp_iload (pc := 80) (i := 5) dX6_isGoodSwap_80 rfl ?_
      first | (with_reducible show WP _ _ _ _ _ _ (Value.int (nI _) :: _) _; refine wp_ialdN (pc := 82) dX6_isGoodSwap_82 rfl (by omega) (by first | with_reducible assumption | with_reducible exact hs_same _ _ _ _ | rfl) ?_) | refine wp_iald (pc := 82) dX6_isGoodSwap_82 rfl (by assumption) rfl ?_
      first | (with_reducible show WP _ _ _ _ _ _ (Value.int (nI _) :: Value.int (nI _) :: _) _; refine wp_icmp_geN (pc := 83) (tgt := 88) dX6_isGoodSwap_83 (by decide) (by omega) (by omega) (fun c83 => ?_) (fun c83 => ?_)) | refine wp_icmp_ge (pc := 83) (tgt := 88) dX6_isGoodSwap_83 (by decide) (fun c83 => ?_) (fun c83 => ?_)
      refine wp_iload (pc := 88) (i := 4) dX6_isGoodSwap_88 rfl ?_
      first | (with_reducible show WP _ _ _ _ _ _ (Value.int (bI _) :: _) _; refine wp_if_neB (pc := 90) (tgt := 113) dX6_isGoodSwap_90 (by decide) (fun c90 => ?_) (fun c90 => ?_)) | (with_reducible show WP _ _ _ _ _ _ (Value.int (nI _) :: _) _; refine wp_if_neN (pc := 90) (tgt := 113) dX6_isGoodSwap_90 (by decide) (by omega) (fun c90 => ?_) (fun c90 => ?_)) | refine wp_if_ne (pc := 90) (tgt := 113) dX6_isGoodSwap_90 (by decide) (fun c90 => ?_) (fun c90 => ?_)
      refine wp_iconst (pc := 113) (v := nI 1) dX6_isGoodSwap_113 rfl ?_
      refine wp_goto (pc := 114) (tgt := 118) dX6_isGoodSwap_114 (by decide) ?_
      refine wp_istore (pc := 118) (i := 4) dX6_isGoodSwap_118 rfl (by decide) rfl ?_
      dsimp only [List.set_cons_zero, List.set_cons_succ]
      first | refine wp_iincN (pc := 120) (i := 5) (n := 1) dX6_isGoodSwap_120 rfl rfl (by decide) rfl ?_ | refine wp_iinc (pc := 120) (i := 5) dX6_isGoodSwap_120 rfl rfl rfl (by decide) rfl ?_
      dsimp only [List.set_cons_zero, List.set_cons_succ]
      refine wp_goto (pc := 123) (tgt := 54) dX6_isGoodSwap_123 (by decide) ?_
      rotate_left
      refine wp_aload_n (pc := 93) (i := 0) dX6_isGoodSwap_93 rfl rfl ?_
      refine wp_gfr (pc := 94) fk_X6_30 dX6_isGoodSwap_94 rfl rfl (by decide) ?_
      refine wp_gfr (pc := 97) fk_X6_203 dX6_isGoodSwap_97 rfl rfl (by decide) ?_
      refine wp_iload (pc := 100) (i := 5) dX6_isGoodSwap_100 rfl ?_
      first | (with_reducible show WP _ _ _ _ _ _ (Value.int (nI _) :: _) _; refine wp_ialdN (pc := 102) dX6_isGoodSwap_102 rfl (by omega) (by first | with_reducible assumption | with_reducible exact hs_same _ _ _ _ | rfl) ?_) | refine wp_iald (pc := 102) dX6_isGoodSwap_102 rfl (by assumption) rfl ?_
      refine wp_aload_n (pc := 103) (i := 0) dX6_isGoodSwap_103 rfl rfl ?_
      refine wp_gfr (pc := 104) fk_X6_37 dX6_isGoodSwap_104 rfl rfl (by decide) ?_
      refine wp_iload (pc := 107) (i := 5) dX6_isGoodSwap_107 rfl ?_
      first | (with_reducible show WP _ _ _ _ _ _ (Value.int (nI _) :: _) _; refine wp_ialdN (pc := 109) dX6_isGoodSwap_109 rfl (by omega) (by first | with_reducible assumption | with_reducible exact hs_same _ _ _ _ | rfl) ?_) | refine wp_iald (pc := 109) dX6_isGoodSwap_109 rfl (by assumption) rfl ?_
      first | (with_reducible show WP _ _ _ _ _ _ (Value.int (nI _) :: Value.int (nI _) :: _) _; refine wp_icmp_leN (pc := 110) (tgt := 117) dX6_isGoodSwap_110 (by decide) (by omega) (by omega) (fun c110 => ?_) (fun c110 => ?_)) | refine wp_icmp_le (pc := 110) (tgt := 117) dX6_isGoodSwap_110 (by decide) (fun c110 => ?_) (fun c110 => ?_)
      refine wp_iconst (pc := 117) (v := nI 0) dX6_isGoodSwap_117 rfl ?_
      refine wp_istore (pc := 118) (i := 4) dX6_isGoodSwap_118 rfl (by decide) rfl ?_
      dsimp only [List.set_cons_zero, List.set_cons_succ]
      first | refine wp_iincN (pc := 120) (i := 5) (n := 1) dX6_isGoodSwap_120 rfl rfl (by decide) rfl ?_ | refine wp_iinc (pc := 120) (i := 5) dX6_isGoodSwap_120 rfl rfl rfl (by decide) rfl ?_
      dsimp only [List.set_cons_zero, List.set_cons_succ]
      refine wp_goto (pc := 123) (tgt := 54) dX6_isGoodSwap_123 (by decide) ?_
      rotate_left
      refine wp_iconst (pc := 113) (v := nI 1) dX6_isGoodSwap_113 rfl ?_
      refine wp_goto (pc := 114) (tgt := 118) dX6_isGoodSwap_114 (by decide) ?_
      refine wp_istore (pc := 118) (i := 4) dX6_isGoodSwap_118 rfl (by decide) rfl ?_
      dsimp only [List.set_cons_zero, List.set_cons_succ]
      first | refine wp_iincN (pc := 120) (i := 5) (n := 1) dX6_isGoodSwap_120 rfl rfl (by decide) rfl ?_ | refine wp_iinc (pc := 120) (i := 5) dX6_isGoodSwap_120 rfl rfl rfl (by decide) rfl ?_
      dsimp only [List.set_cons_zero, List.set_cons_succ]
      refine wp_goto (pc := 123) (tgt := 54) dX6_isGoodSwap_123 (by decide) ?_
      rotate_left
      refine wp_iconst (pc := 86) (v := nI 0) dX6_isGoodSwap_86 rfl ?_
      refine wp_zret (pc := 87) dX6_isGoodSwap_87 rfl (by first | exact Or.inl rfl | exact Or.inr rfl | assumption | exact bI_01 _) ?_
      rotate_left
      · exact absurd him (by omega)
      · rw [c90, Bool.true_or] at w; exact w (decide_eq_false (by omega))
      · rw [c90, Bool.false_or, show sgt T n a b i = false from decide_eq_false (by omega)] at w; exact w (decide_eq_false (by omega))
      · rw [c90, Bool.false_or, show sgt T n a b i = true from decide_eq_true (by omega)] at w; exact w (decide_eq_false (by omega))
      · have z : anyU (slt T n a b) (T 0) = true := anyU_t (c := i) (decide_eq_true (by omega)) _ (by omega)
        rw [good, z, Bool.not_true, Bool.and_false] at kk; exact kk
  refine wp_iconst (pc := 48) (v := nI 0) dX6_isGoodSwap_48 rfl ?_
  refine wp_istore (pc := 49) (i := 4) dX6_isGoodSwap_49 rfl (by decide) rfl ?_
  dsimp only [List.set_cons_zero, List.set_cons_succ]
  refine wp_iconst (pc := 51) (v := nI 0) dX6_isGoodSwap_51 rfl ?_
  refine wp_istore (pc := 52) (i := 5) dX6_isGoodSwap_52 rfl (by decide) rfl ?_
  dsimp only [List.set_cons_zero, List.set_cons_succ]
  rotate_left
  exact loop (T 0) 0 (by omega) rfl
theorem ci_le (T : Tn) (n a : Nat) : ∀ m b, (ci T n a b m).1 ≤ m
  | 0, _ => Nat.le_refl 0
  | m + 1, b => by
    have := ci_le T n a m (b + 1)
    show (g1 T n a b).1 + (ci T n a (b + 1) m).1 ≤ m + 1
    have : (g1 T n a b).1 ≤ 1 := by unfold g1; split; exact Nat.le_refl 1; exact Nat.zero_le 1
    omega
theorem sd_swaps {n w : Int32} {K : Int32 → Hp → Prop} (hW : TW h 27 T) (hO : OKT T) (hd : T 4 ≤ 999) (k : ∀ h', SC h h' → K (fSwaps T n w) h') : Call G (d + 6) mX6_swaps [.ref 0, .int n, .int w] h (pI K) := by
  obtain ⟨o0, o1, o2, o3, o4, o5, o6, o7, o8⟩ := id hO
  refine Call.of (M := mX6_swaps) (n := 4) (by decide +kernel) rfl ?_
  show WP _ _ _ _ 0 [some (.ref 0), some (.int n), some (.int w), none, none, none, none] [] _
  refine wp_aload_n (pc := 0) (i := 0) dX6_swaps_0 rfl rfl ?_
  refine wp_cV0i (pc := 1) lk_X6_154 dX6_swaps_1 rfl rfl rfl (sp_noTown hW hO ?_)
  first | (with_reducible show WP _ _ _ _ _ _ (Value.int (bI _) :: _) _; refine wp_if_eqB (pc := 4) (tgt := 10) dX6_swaps_4 (by decide) (fun c4 => ?_) (fun c4 => ?_)) | (with_reducible show WP _ _ _ _ _ _ (Value.int (nI _) :: _) _; refine wp_if_eqN (pc := 4) (tgt := 10) dX6_swaps_4 (by decide) (by omega) (fun c4 => ?_) (fun c4 => ?_)) | refine wp_if_eq (pc := 4) (tgt := 10) dX6_swaps_4 (by decide) (fun c4 => ?_) (fun c4 => ?_)
  refine wp_iload_n (pc := 10) (i := 1) dX6_swaps_10 rfl rfl ?_
  refine wp_iconst (pc := 11) (v := nI 1) dX6_swaps_11 rfl ?_
  refine wp_bipush (pc := 12) (v := nI 60) dX6_swaps_12 rfl ?_
  refine wp_cS3i (pc := 14) lk_X6_74 dX6_swaps_14 rfl (sp_btw (by decide) (by decide) ?_)
  first | (with_reducible show WP _ _ _ _ _ _ (Value.int (bI _) :: _) _; refine wp_if_eqB (pc := 17) (tgt := 29) dX6_swaps_17 (by decide) (fun c17 => ?_) (fun c17 => ?_)) | (with_reducible show WP _ _ _ _ _ _ (Value.int (nI _) :: _) _; refine wp_if_eqN (pc := 17) (tgt := 29) dX6_swaps_17 (by decide) (by omega) (fun c17 => ?_) (fun c17 => ?_)) | refine wp_if_eq (pc := 17) (tgt := 29) dX6_swaps_17 (by decide) (fun c17 => ?_) (fun c17 => ?_)
  refine wp_ldc (pc := 29) kn_X6_78 dX6_swaps_29 ?_
  refine wp_iret (pc := 31) dX6_swaps_31 rfl ?_
  rotate_left
  refine wp_iload_n (pc := 20) (i := 2) dX6_swaps_20 rfl rfl ?_
  refine wp_iconst (pc := 21) (v := nI 0) dX6_swaps_21 rfl ?_
  refine wp_iconst (pc := 22) (v := nI 1) dX6_swaps_22 rfl ?_
  refine wp_cS3i (pc := 23) lk_X6_74 dX6_swaps_23 rfl (sp_btw (by decide) (by decide) ?_)
  first | (with_reducible show WP _ _ _ _ _ _ (Value.int (bI _) :: _) _; refine wp_if_neB (pc := 26) (tgt := 32) dX6_swaps_26 (by decide) (fun c26 => ?_) (fun c26 => ?_)) | (with_reducible show WP _ _ _ _ _ _ (Value.int (nI _) :: _) _; refine wp_if_neN (pc := 26) (tgt := 32) dX6_swaps_26 (by decide) (by omega) (fun c26 => ?_) (fun c26 => ?_)) | refine wp_if_ne (pc := 26) (tgt := 32) dX6_swaps_26 (by decide) (fun c26 => ?_) (fun c26 => ?_)
  rotate_left
  refine wp_ldc (pc := 29) kn_X6_78 dX6_swaps_29 ?_
  refine wp_iret (pc := 31) dX6_swaps_31 rfl ?_
  rotate_left
  refine wp_ldc (pc := 7) kn_X6_153 dX6_swaps_7 ?_
  refine wp_iret (pc := 9) dX6_swaps_9 rfl ?_
  rotate_left
  · rw [fSwaps, if_neg (of_decide_eq_false c4), c17] at k; exact k h (SC.rf h)
  rotate_left
  · rw [fSwaps, if_neg (of_decide_eq_false c4), c17, c26] at k; exact k h (SC.rf h)
  · rw [fSwaps, if_pos (of_decide_eq_true c4)] at k; exact k h (SC.rf h)
  have z := of_decide_eq_false c4
  rw [fSwaps, if_neg z, c17, c26] at k
  obtain ⟨m, -, hm, rfl⟩ := btw_t (by decide) c17
  obtain ⟨u, -, hu, rfl⟩ := btw_t (by decide) c26
  rw [nI_clamp (by omega)] at k
  have em : nI u = nI 0 ↔ u = 0 := nI_eq (by omega) (by decide)
  obtain ⟨i1, i2, i3⟩ := itP_keep hO (by omega) m (by omega)
  have i0 := i3 0 (by omega)
  have kk : ∀ h', SC h h' → K (if u = 0 then nI (co T m 0 (T 1)).1 else oI (co T m 0 (T 1)).2) h' := fun h' e => by
    have := k h' e
    by_cases q : u = 0
    · rw [if_pos q]; rw [if_pos (em.mpr q)] at this; exact this
    · rw [if_neg q]; rw [if_neg (fun x => q (em.mp x))] at this; exact this
  -- the outer and the inner round
  have outer : ∀ j a acc h1 L6, a + j = T 1 → TW h1 27 T → (∀ c, c < T 0 → h1 52 c = nI (itP T m (5 + c))) → SC h h1 → acc.1 ≤ 6 * a → (∀ v, acc.2 = some v → v < 1000) → comb acc (co T m a j) = co T m 0 (T 1) → WP G (d + 6) mX6_swaps (pI K) 70 [some (.ref 0), some (.int (nI m)), some (.int (nI u)), some (.int (nI acc.1)), some (.int (oI acc.2)), some (.int (nI a)), L6] [] h1 := by
    intro j
    induction j with
    | zero =>
      intro a acc h1 L6 haj hW1 hu1 hs1 hb hv he
      rw [show co T m a 0 = (0, none) from rfl, comb_0] at he
      have kk := kk h1 hs1
      rw [← he] at kk
      have e3 : h1 27 3 = nI (T 1) := hW1.2.2.2.1
      refine wp_iload (pc := 70) (i := 5) dX6_swaps_70 rfl ?_
      refine wp_aload_n (pc := 72) (i := 0) dX6_swaps_72 rfl rfl ?_
      refine wp_gfr (pc := 73) fk_X6_26 dX6_swaps_73 rfl rfl (by decide) ?_
      refine wp_gfv (pc := 76) fk_X6_143 dX6_swaps_76 rfl rfl (by first | with_reducible assumption | with_reducible exact hs_same _ _ _ _ | rfl) ?_
      first | (with_reducible show WP _ _ _ _ _ _ (Value.int (nI _) :: Value.int (nI _) :: _) _; refine wp_icmp_geN (pc := 79) (tgt := 149) dX6_swaps_79 (by decide) (by omega) (by omega) (fun c79 => ?_) (fun c79 => ?_)) | refine wp_icmp_ge (pc := 79) (tgt := 149) dX6_swaps_79 (by decide) (fun c79 => ?_) (fun c79 => ?_)
      refine wp_iload_n (pc := 149) (i := 2) dX6_swaps_149 rfl rfl ?_
      first | (with_reducible show WP _ _ _ _ _ _ (Value.int (bI _) :: _) _; refine wp_if_neB (pc := 150) (tgt := 157) dX6_swaps_150 (by decide) (fun c150 => ?_) (fun c150 => ?_)) | (with_reducible show WP _ _ _ _ _ _ (Value.int (nI _) :: _) _; refine wp_if_neN (pc := 150) (tgt := 157) dX6_swaps_150 (by decide) (by omega) (fun c150 => ?_) (fun c150 => ?_)) | refine wp_if_ne (pc := 150) (tgt := 157) dX6_swaps_150 (by decide) (fun c150 => ?_) (fun c150 => ?_)
      refine wp_iload (pc := 157) (i := 4) dX6_swaps_157 rfl ?_
      refine wp_iret (pc := 159) dX6_swaps_159 rfl ?_
      rotate_left
      refine wp_iload_n (pc := 153) (i := 3) dX6_swaps_153 rfl rfl ?_
      refine wp_goto (pc := 154) (tgt := 159) dX6_swaps_154 (by decide) ?_
      refine wp_iret (pc := 159) dX6_swaps_159 rfl ?_
      rotate_left
      rotate_left
      · rw [if_neg c150] at kk; exact kk
      · rw [if_pos c150] at kk; exact kk
      · exact absurd haj (by omega)
    | succ j ih =>
      intro a acc h1 L6 haj hW1 hu1 hs1 hb hv he
      have e3 : h1 27 3 = nI (T 1) := hW1.2.2.2.1
      rw [show co T m a (j + 1) = comb (ci T m a (a + 1) (T 1 - (a + 1))) (co T m (a + 1) j) from rfl] at he
      have inner : ∀ q b acc h2, b + q = T 1 → a < b → TW h2 27 T → (∀ c, c < T 0 → h2 52 c = nI (itP T m (5 + c))) → SC h h2 → acc.1 + q ≤ 6 * a + T 1 → (∀ v, acc.2 = some v → v < 1000) → comb (comb acc (ci T m a b q)) (co T m (a + 1) j) = co T m 0 (T 1) → WP G (d + 6) mX6_swaps (pI K) 88 [some (.ref 0), some (.int (nI m)), some (.int (nI u)), some (.int (nI acc.1)), some (.int (oI acc.2)), some (.int (nI a)), some (.int (nI b))] [] h2 := by
        intro q
        induction q with
        | zero =>
          intro b acc h2 hbq hab hW2 hu2 hs2 hq hv he
          have e3 : h2 27 3 = nI (T 1) := hW2.2.2.2.1
          rw [show ci T m a b 0 = (0, none) from rfl, comb_0] at he
          refine wp_iload (pc := 88) (i := 6) dX6_swaps_88 rfl ?_
          refine wp_aload_n (pc := 90) (i := 0) dX6_swaps_90 rfl rfl ?_
          refine wp_gfr (pc := 91) fk_X6_26 dX6_swaps_91 rfl rfl (by decide) ?_
          refine wp_gfv (pc := 94) fk_X6_143 dX6_swaps_94 rfl rfl (by first | with_reducible assumption | with_reducible exact hs_same _ _ _ _ | rfl) ?_
          first | (with_reducible show WP _ _ _ _ _ _ (Value.int (nI _) :: Value.int (nI _) :: _) _; refine wp_icmp_geN (pc := 97) (tgt := 143) dX6_swaps_97 (by decide) (by omega) (by omega) (fun c97 => ?_) (fun c97 => ?_)) | refine wp_icmp_ge (pc := 97) (tgt := 143) dX6_swaps_97 (by decide) (fun c97 => ?_) (fun c97 => ?_)
          first | refine wp_iincN (pc := 143) (i := 5) (n := 1) dX6_swaps_143 rfl rfl (by decide) rfl ?_ | refine wp_iinc (pc := 143) (i := 5) dX6_swaps_143 rfl rfl rfl (by decide) rfl ?_
          dsimp only [List.set_cons_zero, List.set_cons_succ]
          refine wp_goto (pc := 146) (tgt := 70) dX6_swaps_146 (by decide) ?_
          rotate_left
          rotate_left
          · exact ih (a + 1) acc h2 _ (by omega) hW2 hu2 hs2 (by omega) hv he
          · exact absurd hbq (by omega)
        | succ q ihq =>
          intro b acc h2 hbq hab hW2 hu2 hs2 hq hv he
          have e3 : h2 27 3 = nI (T 1) := hW2.2.2.2.1
          rw [show ci T m a b (q + 1) = comb (g1 T m a b) (ci T m a (b + 1) q) from rfl, ← comb_as acc] at he
          refine wp_iload (pc := 88) (i := 6) dX6_swaps_88 rfl ?_
          refine wp_aload_n (pc := 90) (i := 0) dX6_swaps_90 rfl rfl ?_
          refine wp_gfr (pc := 91) fk_X6_26 dX6_swaps_91 rfl rfl (by decide) ?_
          refine wp_gfv (pc := 94) fk_X6_143 dX6_swaps_94 rfl rfl (by first | with_reducible assumption | with_reducible exact hs_same _ _ _ _ | rfl) ?_
          first | (with_reducible show WP _ _ _ _ _ _ (Value.int (nI _) :: Value.int (nI _) :: _) _; refine wp_icmp_geN (pc := 97) (tgt := 143) dX6_swaps_97 (by decide) (by omega) (by omega) (fun c97 => ?_) (fun c97 => ?_)) | refine wp_icmp_ge (pc := 97) (tgt := 143) dX6_swaps_97 (by decide) (fun c97 => ?_) (fun c97 => ?_)
          rotate_left
          refine wp_aload_n (pc := 100) (i := 0) dX6_swaps_100 rfl rfl ?_
          refine wp_iload (pc := 101) (i := 5) dX6_swaps_101 rfl ?_
          refine wp_iload (pc := 103) (i := 6) dX6_swaps_103 rfl ?_
          refine wp_iload_n (pc := 105) (i := 1) dX6_swaps_105 rfl rfl ?_
          refine wp_cV3i (pc := 106) lk_X6_247 dX6_swaps_106 rfl rfl rfl (sp_isGoodSwap hW2 hO (by omega) (by omega) hm hd hu2 (fun h3 hf3 => ?_))
          first | (with_reducible show WP _ _ _ _ _ _ (Value.int (bI _) :: _) _; refine wp_if_eqB (pc := 109) (tgt := 137) dX6_swaps_109 (by decide) (fun c109 => ?_) (fun c109 => ?_)) | (with_reducible show WP _ _ _ _ _ _ (Value.int (nI _) :: _) _; refine wp_if_eqN (pc := 109) (tgt := 137) dX6_swaps_109 (by decide) (by omega) (fun c109 => ?_) (fun c109 => ?_)) | refine wp_if_eq (pc := 109) (tgt := 137) dX6_swaps_109 (by decide) (fun c109 => ?_) (fun c109 => ?_)
          first | refine wp_iincN (pc := 137) (i := 6) (n := 1) dX6_swaps_137 rfl rfl (by decide) rfl ?_ | refine wp_iinc (pc := 137) (i := 6) dX6_swaps_137 rfl rfl rfl (by decide) rfl ?_
          dsimp only [List.set_cons_zero, List.set_cons_succ]
          refine wp_goto (pc := 140) (tgt := 88) dX6_swaps_140 (by decide) ?_
          rotate_left
          rotate_left
          · exact absurd hbq (by omega)
          · have hW3 : TW h3 27 T := hW2.cg2 (fun q _ _ => hf3 q (by omega))
            have w := ihq (b + 1) (comb acc (g1 T m a b)) h3 (by omega) (by omega) hW3 (fun c hc => by rw [hf3 52 (by omega)]; exact hu2 c hc) (hs2.tr (fun a ha => hf3 a (by omega)))
            rw [show g1 T m a b = (0, none) by unfold g1; rw [c109]; rfl, comb_0] at w he
            exact w (by omega) hv he
          · have hW3 : TW h3 27 T := hW2.cg2 (fun q _ _ => hf3 q (by omega))
            have w := ihq (b + 1) (comb acc (g1 T m a b)) h3 (by omega) (by omega) hW3 (fun c hc => by rw [hf3 52 (by omega)]; exact hu2 c hc) (hs2.tr (fun a ha => hf3 a (by omega)))
            rw [show g1 T m a b = (1, some (10 * a + b)) by unfold g1; rw [c109]; rfl] at w he
            obtain ⟨x, y⟩ := acc
            cases y with
            | none =>
              rw [show comb (x, none) (1, some (10 * a + b)) = (x + 1, some (10 * a + b)) from rfl] at w he
              rw [show oI (x, (none : Option Nat)).2 = kNONE from rfl]
              first | refine wp_iincN (pc := 112) (i := 3) (n := 1) dX6_swaps_112 rfl rfl (by decide) rfl ?_ | refine wp_iinc (pc := 112) (i := 3) dX6_swaps_112 rfl rfl rfl (by decide) rfl ?_
              dsimp only [List.set_cons_zero, List.set_cons_succ]
              refine wp_iload (pc := 115) (i := 4) dX6_swaps_115 rfl ?_
              refine wp_ldc (pc := 117) kn_X6_222 dX6_swaps_117 ?_
              first | (with_reducible show WP _ _ _ _ _ _ (Value.int (nI _) :: Value.int (nI _) :: _) _; refine wp_icmp_neN (pc := 119) (tgt := 133) dX6_swaps_119 (by decide) (by omega) (by omega) (fun c119 => ?_) (fun c119 => ?_)) | refine wp_icmp_ne (pc := 119) (tgt := 133) dX6_swaps_119 (by decide) (fun c119 => ?_) (fun c119 => ?_)
              refine wp_iload (pc := 133) (i := 4) dX6_swaps_133 rfl ?_
              refine wp_istore (pc := 135) (i := 4) dX6_swaps_135 rfl (by decide) rfl ?_
              dsimp only [List.set_cons_zero, List.set_cons_succ]
              first | refine wp_iincN (pc := 137) (i := 6) (n := 1) dX6_swaps_137 rfl rfl (by decide) rfl ?_ | refine wp_iinc (pc := 137) (i := 6) dX6_swaps_137 rfl rfl rfl (by decide) rfl ?_
              dsimp only [List.set_cons_zero, List.set_cons_succ]
              refine wp_goto (pc := 140) (tgt := 88) dX6_swaps_140 (by decide) ?_
              rotate_left
              refine wp_bipush (pc := 122) (v := nI 10) dX6_swaps_122 rfl ?_
              refine wp_iload (pc := 124) (i := 5) dX6_swaps_124 rfl ?_
              first | (with_reducible show WP _ _ _ _ _ _ (Value.int (nI _) :: Value.int (nI _) :: _) _; refine wp_imulN (pc := 126) dX6_swaps_126 ?_) | refine wp_imul (pc := 126) dX6_swaps_126 ?_
              refine wp_iload (pc := 127) (i := 6) dX6_swaps_127 rfl ?_
              first | (with_reducible show WP _ _ _ _ _ _ (Value.int (nI _) :: Value.int (nI _) :: _) _; refine wp_iaddN (pc := 129) dX6_swaps_129 ?_) | refine wp_iadd (pc := 129) dX6_swaps_129 ?_
              refine wp_goto (pc := 130) (tgt := 135) dX6_swaps_130 (by decide) ?_
              refine wp_istore (pc := 135) (i := 4) dX6_swaps_135 rfl (by decide) rfl ?_
              dsimp only [List.set_cons_zero, List.set_cons_succ]
              first | refine wp_iincN (pc := 137) (i := 6) (n := 1) dX6_swaps_137 rfl rfl (by decide) rfl ?_ | refine wp_iinc (pc := 137) (i := 6) dX6_swaps_137 rfl rfl rfl (by decide) rfl ?_
              dsimp only [List.set_cons_zero, List.set_cons_succ]
              refine wp_goto (pc := 140) (tgt := 88) dX6_swaps_140 (by decide) ?_
              rotate_left
              · exact absurd rfl c119
              · exact w (by show x + 1 + q ≤ _; have : x + (q + 1) ≤ 6 * a + T 1 := hq; omega) (fun v hv => by cases hv; omega) he
            | some y =>
              have hy := hv y rfl
              rw [show comb (x, some y) (1, some (10 * a + b)) = (x + 1, some y) from rfl] at w he
              rw [show oI (x, some y).2 = nI y from rfl]
              first | refine wp_iincN (pc := 112) (i := 3) (n := 1) dX6_swaps_112 rfl rfl (by decide) rfl ?_ | refine wp_iinc (pc := 112) (i := 3) dX6_swaps_112 rfl rfl rfl (by decide) rfl ?_
              dsimp only [List.set_cons_zero, List.set_cons_succ]
              refine wp_iload (pc := 115) (i := 4) dX6_swaps_115 rfl ?_
              refine wp_ldc (pc := 117) kn_X6_222 dX6_swaps_117 ?_
              first | (with_reducible show WP _ _ _ _ _ _ (Value.int (nI _) :: Value.int (nI _) :: _) _; refine wp_icmp_neN (pc := 119) (tgt := 133) dX6_swaps_119 (by decide) (by omega) (by omega) (fun c119 => ?_) (fun c119 => ?_)) | refine wp_icmp_ne (pc := 119) (tgt := 133) dX6_swaps_119 (by decide) (fun c119 => ?_) (fun c119 => ?_)
              refine wp_iload (pc := 133) (i := 4) dX6_swaps_133 rfl ?_
              refine wp_istore (pc := 135) (i := 4) dX6_swaps_135 rfl (by decide) rfl ?_
              dsimp only [List.set_cons_zero, List.set_cons_succ]
              first | refine wp_iincN (pc := 137) (i := 6) (n := 1) dX6_swaps_137 rfl rfl (by decide) rfl ?_ | refine wp_iinc (pc := 137) (i := 6) dX6_swaps_137 rfl rfl rfl (by decide) rfl ?_
              dsimp only [List.set_cons_zero, List.set_cons_succ]
              refine wp_goto (pc := 140) (tgt := 88) dX6_swaps_140 (by decide) ?_
              rotate_left
              refine wp_bipush (pc := 122) (v := nI 10) dX6_swaps_122 rfl ?_
              refine wp_iload (pc := 124) (i := 5) dX6_swaps_124 rfl ?_
              first | (with_reducible show WP _ _ _ _ _ _ (Value.int (nI _) :: Value.int (nI _) :: _) _; refine wp_imulN (pc := 126) dX6_swaps_126 ?_) | refine wp_imul (pc := 126) dX6_swaps_126 ?_
              refine wp_iload (pc := 127) (i := 6) dX6_swaps_127 rfl ?_
              first | (with_reducible show WP _ _ _ _ _ _ (Value.int (nI _) :: Value.int (nI _) :: _) _; refine wp_iaddN (pc := 129) dX6_swaps_129 ?_) | refine wp_iadd (pc := 129) dX6_swaps_129 ?_
              refine wp_goto (pc := 130) (tgt := 135) dX6_swaps_130 (by decide) ?_
              refine wp_istore (pc := 135) (i := 4) dX6_swaps_135 rfl (by decide) rfl ?_
              dsimp only [List.set_cons_zero, List.set_cons_succ]
              first | refine wp_iincN (pc := 137) (i := 6) (n := 1) dX6_swaps_137 rfl rfl (by decide) rfl ?_ | refine wp_iinc (pc := 137) (i := 6) dX6_swaps_137 rfl rfl rfl (by decide) rfl ?_
              dsimp only [List.set_cons_zero, List.set_cons_succ]
              refine wp_goto (pc := 140) (tgt := 88) dX6_swaps_140 (by decide) ?_
              rotate_left
              · exact w (by show x + 1 + q ≤ _; have : x + (q + 1) ≤ 6 * a + T 1 := hq; omega) (fun v hv => by cases hv; exact hy) he
              · exact absurd c119 (nI_none (by omega))
      rw [← comb_as] at he
      refine wp_iload (pc := 70) (i := 5) dX6_swaps_70 rfl ?_
      refine wp_aload_n (pc := 72) (i := 0) dX6_swaps_72 rfl rfl ?_
      refine wp_gfr (pc := 73) fk_X6_26 dX6_swaps_73 rfl rfl (by decide) ?_
      refine wp_gfv (pc := 76) fk_X6_143 dX6_swaps_76 rfl rfl (by first | with_reducible assumption | with_reducible exact hs_same _ _ _ _ | rfl) ?_
      first | (with_reducible show WP _ _ _ _ _ _ (Value.int (nI _) :: Value.int (nI _) :: _) _; refine wp_icmp_geN (pc := 79) (tgt := 149) dX6_swaps_79 (by decide) (by omega) (by omega) (fun c79 => ?_) (fun c79 => ?_)) | refine wp_icmp_ge (pc := 79) (tgt := 149) dX6_swaps_79 (by decide) (fun c79 => ?_) (fun c79 => ?_)
      rotate_left
      refine wp_iload (pc := 82) (i := 5) dX6_swaps_82 rfl ?_
      refine wp_iconst (pc := 84) (v := nI 1) dX6_swaps_84 rfl ?_
      first | (with_reducible show WP _ _ _ _ _ _ (Value.int (nI _) :: Value.int (nI _) :: _) _; refine wp_iaddN (pc := 85) dX6_swaps_85 ?_) | refine wp_iadd (pc := 85) dX6_swaps_85 ?_
      refine wp_istore (pc := 86) (i := 6) dX6_swaps_86 rfl (by decide) rfl ?_
      dsimp only [List.set_cons_zero, List.set_cons_succ]
      rotate_left
      · exact absurd haj (by omega)
      · exact inner (T 1 - (a + 1)) (a + 1) acc h1 (by omega) (by omega) hW1 hu1 hs1 (by omega) hv he
  refine wp_aload_n (pc := 32) (i := 0) dX6_swaps_32 rfl rfl ?_
  refine wp_cV0v (pc := 33) lk_X6_212 dX6_swaps_33 rfl rfl rfl (sp_openTrial hW hO (fun h1 hW1 hf1 => ?_))
  refine wp_aload_n (pc := 36) (i := 0) dX6_swaps_36 rfl rfl ?_
  refine wp_gfr (pc := 37) fk_X6_30 dX6_swaps_37 rfl rfl (by decide) ?_
  refine wp_iload_n (pc := 40) (i := 1) dX6_swaps_40 rfl rfl ?_
  refine wp_cV1v (pc := 41) lk_X6_215 dX6_swaps_41 rfl rfl rfl (sp_passDays isT_39 hW1 hO (by omega) hm (by omega) (fun h2 hW2 hF2 => ?_))
  refine wp_aload_n (pc := 44) (i := 0) dX6_swaps_44 rfl rfl ?_
  refine wp_gfr (pc := 45) fk_X6_30 dX6_swaps_45 rfl rfl (by decide) ?_
  refine wp_gfr (pc := 48) fk_X6_203 dX6_swaps_48 rfl rfl (by decide) ?_
  refine wp_iconst (pc := 51) (v := nI 0) dX6_swaps_51 rfl ?_
  refine wp_aload_n (pc := 52) (i := 0) dX6_swaps_52 rfl rfl ?_
  refine wp_gfr (pc := 53) fk_X6_37 dX6_swaps_53 rfl rfl (by decide) ?_
  refine wp_iconst (pc := 56) (v := nI 0) dX6_swaps_56 rfl ?_
  refine wp_iconst (pc := 57) (v := nI 5) dX6_swaps_57 rfl ?_
  rotate_left
  refine wp_copy (pc := 58) (na := 5) (nb := 5) (fa := []) (fb := []) lk_X6_241 dX6_swaps_58 rfl rfl (nI_pos (by decide)) (nI_pos (by decide)) (nI_pos (by decide)) (by decide) (by decide) rfl ?_
  refine wp_iconst (pc := 61) (v := nI 0) dX6_swaps_61 rfl ?_
  refine wp_istore_n (pc := 62) (i := 3) dX6_swaps_62 rfl rfl (by decide) rfl ?_
  dsimp only [List.set_cons_zero, List.set_cons_succ]
  refine wp_ldc (pc := 63) kn_X6_222 dX6_swaps_63 ?_
  refine wp_istore (pc := 65) (i := 4) dX6_swaps_65 rfl (by decide) rfl ?_
  dsimp only [List.set_cons_zero, List.set_cons_succ]
  refine wp_iconst (pc := 67) (v := nI 0) dX6_swaps_67 rfl ?_
  refine wp_istore (pc := 68) (i := 5) dX6_swaps_68 rfl (by decide) rfl ?_
  dsimp only [List.set_cons_zero, List.set_cons_succ]
  rotate_left
  have f2 : ∀ a, a < 39 ∨ (51 < a) → h2 a = h a := fun a ha => by rw [hF2 a (by omega)]; exact hf1 a (by omega)
  have f3 : ∀ q, q < 39 ∨ 52 < q → hcp h2 40 (nI 0).toNatClampNeg 52 (nI 0).toNatClampNeg (nI 5).toNatClampNeg q = h q := fun q hq => by rw [hcp, if_neg (by omega)]; exact f2 q (by omega)
  refine outer (T 1) 0 (0, none) _ _ (by omega) (hW.cg2 (fun q _ _ => f3 q (by omega))) (fun c hc => ?_) (fun a ha => f3 a (by omega)) (Nat.le_refl _) (fun v hv => by cases hv) (comb_0l _)
  have r5 : h2 40 c = nI (itP T m (5 + c)) := hW2.2.2.2.2.2.1 c (by show c < itP T m 0; rw [i0]; exact hc)
  rw [hcp, if_pos rfl, nI_clamp (by decide), nI_clamp (by decide), pk_cpy_in (Nat.zero_le c) (by omega), Nat.sub_zero, Nat.zero_add]
  exact r5
end DSWAPS
