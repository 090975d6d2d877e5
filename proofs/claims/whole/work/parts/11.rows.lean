section WPR
variable {G : Gt} {d : Nat} {M : Mt} {Q : Option Value → Hp → Prop} {pc : Nat} {L : List (Option Value)} {S : List Value} {h : Hp}
theorem gr_lt {a : Nat} (G : Gt) (h : a < 112) : gr G a = ga G a := if_neg (by omega)
theorem lvr_at {ls : Array Slot} {n i : Nat} {v : Value} (hl : lvr G ls n L) (h : L[i]? = some (some v)) : ls[i]? = some (.val (cv G v)) := hl.2.2.2 i v h
theorem wp_iconst {n : Int} {v : Int32} (hd : decode M.2.1 pc = .ok (.iconst n, 1)) (hv : Int32.ofInt n = v) (k : WP G d M Q (pc + 1) L (.int v :: S) h) : WP G d M Q pc L (S) h := by
  intro p e s m args below meth c H locs ls C hP hS hl
  exact lv_iconst C.1 C.2.1 hd hv (k p e s m args below meth c H locs ls C hP hS hl)
theorem wp_bipush {n : Int} {v : Int32} (hd : decode M.2.1 pc = .ok (.bipush n, 2)) (hv : (Int8.ofInt n).toInt32 = v) (k : WP G d M Q (pc + 2) L (.int v :: S) h) : WP G d M Q pc L (S) h := by
  intro p e s m args below meth c H locs ls C hP hS hl
  exact lv_bipush C.1 C.2.1 hd hv (k p e s m args below meth c H locs ls C hP hS hl)
theorem wp_sipush {n : Int} {v : Int32} (hd : decode M.2.1 pc = .ok (.sipush n, 3)) (hv : (Int16.ofInt n).toInt32 = v) (k : WP G d M Q (pc + 3) L (.int v :: S) h) : WP G d M Q pc L (S) h := by
  intro p e s m args below meth c H locs ls C hP hS hl
  exact lv_sipush C.1 C.2.1 hd hv (k p e s m args below meth c H locs ls C hP hS hl)
theorem wp_lconst {n : Fin 2} {v : Int64} (hd : decode M.2.1 pc = .ok (.lconst n, 1)) (hv : Int64.ofNat (n : Nat) = v) (k : WP G d M Q (pc + 1) L (.long v :: S) h) : WP G d M Q pc L (S) h := by
  intro p e s m args below meth c H locs ls C hP hS hl
  exact lv_lconst C.1 C.2.1 hd hv (k p e s m args below meth c H locs ls C hP hS hl)
theorem wp_iload_n {k : Fin 4} {i : Nat} {x : Int32} (hd : decode M.2.1 pc = .ok (.iload_n k, 1)) (hi : (k : Nat) = i) (hx : L[i]? = some (some (.int x))) (k : WP G d M Q (pc + 1) L (.int x :: S) h) : WP G d M Q pc L S h := by
  intro p e s m args below meth c H locs ls C hP hS hl
  exact lv_iload_n C.1 C.2.1 hd hi (lvr_at hl hx) (k p e s m args below meth c H locs ls C hP hS hl)
theorem wp_iload {i : Nat} {x : Int32} (hd : decode M.2.1 pc = .ok (.iload i, 2)) (hx : L[i]? = some (some (.int x))) (k : WP G d M Q (pc + 2) L (.int x :: S) h) : WP G d M Q pc L S h := by
  intro p e s m args below meth c H locs ls C hP hS hl
  exact lv_iload C.1 C.2.1 hd (lvr_at hl hx) (k p e s m args below meth c H locs ls C hP hS hl)
theorem wp_lload_n {k : Fin 4} {i : Nat} {x : Int64} (hd : decode M.2.1 pc = .ok (.lload_n k, 1)) (hi : (k : Nat) = i) (hx : L[i]? = some (some (.long x))) (k : WP G d M Q (pc + 1) L (.long x :: S) h) : WP G d M Q pc L S h := by
  intro p e s m args below meth c H locs ls C hP hS hl
  exact lv_lload_n C.1 C.2.1 hd hi (lvr_at hl hx) (k p e s m args below meth c H locs ls C hP hS hl)
theorem wp_lload {i : Nat} {x : Int64} (hd : decode M.2.1 pc = .ok (.lload i, 2)) (hx : L[i]? = some (some (.long x))) (k : WP G d M Q (pc + 2) L (.long x :: S) h) : WP G d M Q pc L S h := by
  intro p e s m args below meth c H locs ls C hP hS hl
  exact lv_lload C.1 C.2.1 hd (lvr_at hl hx) (k p e s m args below meth c H locs ls C hP hS hl)
theorem wp_aload_n {k : Fin 4} {i : Nat} {x : Nat} (hd : decode M.2.1 pc = .ok (.aload_n k, 1)) (hi : (k : Nat) = i) (hx : L[i]? = some (some (.ref x))) (k : WP G d M Q (pc + 1) L (.ref x :: S) h) : WP G d M Q pc L S h := by
  intro p e s m args below meth c H locs ls C hP hS hl
  exact lv_aload_n C.1 C.2.1 hd hi (lvr_at hl hx) (k p e s m args below meth c H locs ls C hP hS hl)
theorem wp_aload {i : Nat} {x : Nat} (hd : decode M.2.1 pc = .ok (.aload i, 2)) (hx : L[i]? = some (some (.ref x))) (k : WP G d M Q (pc + 2) L (.ref x :: S) h) : WP G d M Q pc L S h := by
  intro p e s m args below meth c H locs ls C hP hS hl
  exact lv_aload C.1 C.2.1 hd (lvr_at hl hx) (k p e s m args below meth c H locs ls C hP hS hl)
theorem wp_istore_n {k : Fin 4} {i : Nat} {x : Int32} {L1 : List (Option Value)} (hd : decode M.2.1 pc = .ok (.istore_n k, 1)) (hi : (k : Nat) = i) (hn : nl L i = true) (hb : i < M.2.2.1) (hL : L.set i (some (.int x)) = L1) (k : WP G d M Q (pc + 1) L1 S h) : WP G d M Q pc L (.int x :: S) h := by
  intro p e s m args below meth c H locs ls C hP hS hl
  subst hL
  exact lv_istore_n C.1 C.2.1 hd hi (lvr_has hl) hb rfl (fun ls2 hl2 => k p e s m args below meth c H locs ls2 C hP hS (lvr_set1 hl.2.2.1 hn hl2))
theorem wp_istore {i : Nat} {x : Int32} {L1 : List (Option Value)} (hd : decode M.2.1 pc = .ok (.istore i, 2)) (hn : nl L i = true) (hb : i < M.2.2.1) (hL : L.set i (some (.int x)) = L1) (k : WP G d M Q (pc + 2) L1 S h) : WP G d M Q pc L (.int x :: S) h := by
  intro p e s m args below meth c H locs ls C hP hS hl
  subst hL
  exact lv_istore C.1 C.2.1 hd (lvr_has hl) hb rfl (fun ls2 hl2 => k p e s m args below meth c H locs ls2 C hP hS (lvr_set1 hl.2.2.1 hn hl2))
theorem wp_lstore_n {k : Fin 4} {i : Nat} {x : Int64} {L1 : List (Option Value)} (hd : decode M.2.1 pc = .ok (.lstore_n k, 1)) (hi : (k : Nat) = i) (hn : nl L i = true) (hb : i + 1 < M.2.2.1) (hL : (L.set i (some (.long x))).set (i + 1) none = L1) (k : WP G d M Q (pc + 1) L1 S h) : WP G d M Q pc L (.long x :: S) h := by
  intro p e s m args below meth c H locs ls C hP hS hl
  subst hL
  exact lv_lstore_n C.1 C.2.1 hd hi (lvr_has hl) hb rfl (fun ls2 hl2 => k p e s m args below meth c H locs ls2 C hP hS (lvr_set2 hl.2.2.1 hn hl2))
theorem wp_lstore {i : Nat} {x : Int64} {L1 : List (Option Value)} (hd : decode M.2.1 pc = .ok (.lstore i, 2)) (hn : nl L i = true) (hb : i + 1 < M.2.2.1) (hL : (L.set i (some (.long x))).set (i + 1) none = L1) (k : WP G d M Q (pc + 2) L1 S h) : WP G d M Q pc L (.long x :: S) h := by
  intro p e s m args below meth c H locs ls C hP hS hl
  subst hL
  exact lv_lstore C.1 C.2.1 hd (lvr_has hl) hb rfl (fun ls2 hl2 => k p e s m args below meth c H locs ls2 C hP hS (lvr_set2 hl.2.2.1 hn hl2))
theorem wp_iinc {i : Nat} {n : Int} {x v : Int32} {L1 : List (Option Value)} (hd : decode M.2.1 pc = .ok (.iinc i n, 3)) (hx : L[i]? = some (some (.int x))) (hv : x + Int32.ofInt n = v) (hn : nl L i = true) (hb : i < M.2.2.1) (hL : L.set i (some (.int v)) = L1) (k : WP G d M Q (pc + 3) L1 S h) : WP G d M Q pc L S h := by
  intro p e s m args below meth c H locs ls C hP hS hl
  subst hL
  obtain ⟨q, hq⟩ := List.getElem?_of_mem ((lvp_mem G L 0 (i, .int x)).mpr ⟨i, _, hx, by rw [Nat.zero_add]; rfl⟩)
  exact lv_iinc C.1 C.2.1 hd (lvr_has hl) hq hv hb rfl (fun ls2 hl2 => k p e s m args below meth c H locs ls2 C hP hS (lvr_set1 hl.2.2.1 hn hl2))
theorem wp_iadd {x y : Int32} (hd : decode M.2.1 pc = .ok (.iadd, 1))  (k : WP G d M Q (pc + 1) L (.int (x + y) :: S) h) : WP G d M Q pc L (.int y :: .int x :: S) h := by
  intro p e s m args below meth c H locs ls C hP hS hl
  exact lv_iadd C.1 C.2.1 hd  (k p e s m args below meth c H locs ls C hP hS hl)
theorem wp_isub {x y : Int32} (hd : decode M.2.1 pc = .ok (.isub, 1))  (k : WP G d M Q (pc + 1) L (.int (x - y) :: S) h) : WP G d M Q pc L (.int y :: .int x :: S) h := by
  intro p e s m args below meth c H locs ls C hP hS hl
  exact lv_isub C.1 C.2.1 hd  (k p e s m args below meth c H locs ls C hP hS hl)
theorem wp_imul {x y : Int32} (hd : decode M.2.1 pc = .ok (.imul, 1))  (k : WP G d M Q (pc + 1) L (.int (x * y) :: S) h) : WP G d M Q pc L (.int y :: .int x :: S) h := by
  intro p e s m args below meth c H locs ls C hP hS hl
  exact lv_imul C.1 C.2.1 hd  (k p e s m args below meth c H locs ls C hP hS hl)
theorem wp_iand {x y : Int32} (hd : decode M.2.1 pc = .ok (.iand, 1))  (k : WP G d M Q (pc + 1) L (.int (x &&& y) :: S) h) : WP G d M Q pc L (.int y :: .int x :: S) h := by
  intro p e s m args below meth c H locs ls C hP hS hl
  exact lv_iand C.1 C.2.1 hd  (k p e s m args below meth c H locs ls C hP hS hl)
theorem wp_ior {x y : Int32} (hd : decode M.2.1 pc = .ok (.ior, 1))  (k : WP G d M Q (pc + 1) L (.int (x ||| y) :: S) h) : WP G d M Q pc L (.int y :: .int x :: S) h := by
  intro p e s m args below meth c H locs ls C hP hS hl
  exact lv_ior C.1 C.2.1 hd  (k p e s m args below meth c H locs ls C hP hS hl)
theorem wp_ixor {x y : Int32} (hd : decode M.2.1 pc = .ok (.ixor, 1))  (k : WP G d M Q (pc + 1) L (.int (x ^^^ y) :: S) h) : WP G d M Q pc L (.int y :: .int x :: S) h := by
  intro p e s m args below meth c H locs ls C hP hS hl
  exact lv_ixor C.1 C.2.1 hd  (k p e s m args below meth c H locs ls C hP hS hl)
theorem wp_ishl {x y : Int32} (hd : decode M.2.1 pc = .ok (.ishl, 1))  (k : WP G d M Q (pc + 1) L (.int (x <<< (y &&& 31)) :: S) h) : WP G d M Q pc L (.int y :: .int x :: S) h := by
  intro p e s m args below meth c H locs ls C hP hS hl
  exact lv_ishl C.1 C.2.1 hd  (k p e s m args below meth c H locs ls C hP hS hl)
theorem wp_ishr {x y : Int32} (hd : decode M.2.1 pc = .ok (.ishr, 1))  (k : WP G d M Q (pc + 1) L (.int (x >>> (y &&& 31)) :: S) h) : WP G d M Q pc L (.int y :: .int x :: S) h := by
  intro p e s m args below meth c H locs ls C hP hS hl
  exact lv_ishr C.1 C.2.1 hd  (k p e s m args below meth c H locs ls C hP hS hl)
theorem wp_idiv {x y : Int32} (hd : decode M.2.1 pc = .ok (.idiv, 1)) (hne : ¬ y = 0) (k : WP G d M Q (pc + 1) L (.int (x / y) :: S) h) : WP G d M Q pc L (.int y :: .int x :: S) h := by
  intro p e s m args below meth c H locs ls C hP hS hl
  exact lv_idiv C.1 C.2.1 hd hne (k p e s m args below meth c H locs ls C hP hS hl)
theorem wp_irem {x y : Int32} (hd : decode M.2.1 pc = .ok (.irem, 1)) (hne : ¬ y = 0) (k : WP G d M Q (pc + 1) L (.int (x - x / y * y) :: S) h) : WP G d M Q pc L (.int y :: .int x :: S) h := by
  intro p e s m args below meth c H locs ls C hP hS hl
  exact lv_irem C.1 C.2.1 hd hne (k p e s m args below meth c H locs ls C hP hS hl)
theorem wp_ineg {x : Int32} (hd : decode M.2.1 pc = .ok (.ineg, 1))  (k : WP G d M Q (pc + 1) L (.int (-x) :: S) h) : WP G d M Q pc L (.int x :: S) h := by
  intro p e s m args below meth c H locs ls C hP hS hl
  exact lv_ineg C.1 C.2.1 hd  (k p e s m args below meth c H locs ls C hP hS hl)
theorem wp_ladd {x y : Int64} (hd : decode M.2.1 pc = .ok (.ladd, 1))  (k : WP G d M Q (pc + 1) L (.long (x + y) :: S) h) : WP G d M Q pc L (.long y :: .long x :: S) h := by
  intro p e s m args below meth c H locs ls C hP hS hl
  exact lv_ladd C.1 C.2.1 hd  (k p e s m args below meth c H locs ls C hP hS hl)
theorem wp_lsub {x y : Int64} (hd : decode M.2.1 pc = .ok (.lsub, 1))  (k : WP G d M Q (pc + 1) L (.long (x - y) :: S) h) : WP G d M Q pc L (.long y :: .long x :: S) h := by
  intro p e s m args below meth c H locs ls C hP hS hl
  exact lv_lsub C.1 C.2.1 hd  (k p e s m args below meth c H locs ls C hP hS hl)
theorem wp_lmul {x y : Int64} (hd : decode M.2.1 pc = .ok (.lmul, 1))  (k : WP G d M Q (pc + 1) L (.long (x * y) :: S) h) : WP G d M Q pc L (.long y :: .long x :: S) h := by
  intro p e s m args below meth c H locs ls C hP hS hl
  exact lv_lmul C.1 C.2.1 hd  (k p e s m args below meth c H locs ls C hP hS hl)
theorem wp_ldiv {x y : Int64} (hd : decode M.2.1 pc = .ok (.ldiv, 1)) (hne : ¬ y = 0) (k : WP G d M Q (pc + 1) L (.long (x / y) :: S) h) : WP G d M Q pc L (.long y :: .long x :: S) h := by
  intro p e s m args below meth c H locs ls C hP hS hl
  exact lv_ldiv C.1 C.2.1 hd hne (k p e s m args below meth c H locs ls C hP hS hl)
theorem wp_lrem {x y : Int64} (hd : decode M.2.1 pc = .ok (.lrem, 1)) (hne : ¬ y = 0) (k : WP G d M Q (pc + 1) L (.long (x - x / y * y) :: S) h) : WP G d M Q pc L (.long y :: .long x :: S) h := by
  intro p e s m args below meth c H locs ls C hP hS hl
  exact lv_lrem C.1 C.2.1 hd hne (k p e s m args below meth c H locs ls C hP hS hl)
theorem wp_lcmp {x y : Int64} (hd : decode M.2.1 pc = .ok (.lcmp, 1))  (k : WP G d M Q (pc + 1) L (.int (lg_cmp x y) :: S) h) : WP G d M Q pc L (.long y :: .long x :: S) h := by
  intro p e s m args below meth c H locs ls C hP hS hl
  exact W.lcmp C.1 C.2.1 hd  (k p e s m args below meth c H locs ls C hP hS hl)
theorem wp_i2l {x : Int32} {v : Int64} (hd : decode M.2.1 pc = .ok (.i2l, 1)) (hv : x.toInt64 = v) (k : WP G d M Q (pc + 1) L (.long v :: S) h) : WP G d M Q pc L (.int x :: S) h := by
  intro p e s m args below meth c H locs ls C hP hS hl
  exact lv_i2l C.1 C.2.1 hd hv (k p e s m args below meth c H locs ls C hP hS hl)
theorem wp_l2i {x : Int64} {v : Int32} (hd : decode M.2.1 pc = .ok (.l2i, 1)) (hv : x.toInt32 = v) (k : WP G d M Q (pc + 1) L (.int v :: S) h) : WP G d M Q pc L (.long x :: S) h := by
  intro p e s m args below meth c H locs ls C hP hS hl
  exact lv_l2i C.1 C.2.1 hd hv (k p e s m args below meth c H locs ls C hP hS hl)
theorem wp_i2b {x v : Int32} (hd : decode M.2.1 pc = .ok (.i2b, 1)) (hv : x.toInt8.toInt32 = v) (k : WP G d M Q (pc + 1) L (.int v :: S) h) : WP G d M Q pc L (.int x :: S) h := by
  intro p e s m args below meth c H locs ls C hP hS hl
  exact lv_i2b C.1 C.2.1 hd hv (k p e s m args below meth c H locs ls C hP hS hl)
theorem wp_i2s {x v : Int32} (hd : decode M.2.1 pc = .ok (.i2s, 1)) (hv : x.toInt16.toInt32 = v) (k : WP G d M Q (pc + 1) L (.int v :: S) h) : WP G d M Q pc L (.int x :: S) h := by
  intro p e s m args below meth c H locs ls C hP hS hl
  exact lv_i2s C.1 C.2.1 hd hv (k p e s m args below meth c H locs ls C hP hS hl)
theorem wp_iushr {x y v : Int32} (hd : decode M.2.1 pc = .ok (.iushr, 1)) (hv : (x.toUInt32 >>> (y.toUInt32 &&& Int32.toUInt32 31)).toInt32 = v) (k : WP G d M Q (pc + 1) L (.int v :: S) h) : WP G d M Q pc L (.int y :: .int x :: S) h := by
  intro p e s m args below meth c H locs ls C hP hS hl
  exact lv_iushr C.1 C.2.1 hd hv (k p e s m args below meth c H locs ls C hP hS hl)
theorem wp_dup {v : Value} (hd : decode M.2.1 pc = .ok (.dup, 1)) (hc : v.category = 1) (k : WP G d M Q (pc + 1) L (v :: v :: S) h) : WP G d M Q pc L (v :: S) h := by
  intro p e s m args below meth c H locs ls C hP hS hl
  exact lv_dup C.1 C.2.1 hd ((cv_cat G v).trans hc) (k p e s m args below meth c H locs ls C hP hS hl)
theorem wp_dup_x1 {v w : Value} (hd : decode M.2.1 pc = .ok (.dup_x1, 1)) (hc : v.category = 1) (hc2 : w.category = 1) (k : WP G d M Q (pc + 1) L (v :: w :: v :: S) h) : WP G d M Q pc L (v :: w :: S) h := by
  intro p e s m args below meth c H locs ls C hP hS hl
  exact lv_dup_x1 C.1 C.2.1 hd ((cv_cat G v).trans hc) ((cv_cat G w).trans hc2) (k p e s m args below meth c H locs ls C hP hS hl)
theorem wp_dup2 {v w : Value} (hd : decode M.2.1 pc = .ok (.dup2, 1)) (hc : v.category = 1) (hc2 : w.category = 1) (k : WP G d M Q (pc + 1) L (v :: w :: v :: w :: S) h) : WP G d M Q pc L (v :: w :: S) h := by
  intro p e s m args below meth c H locs ls C hP hS hl
  exact lv_dup2_11 C.1 C.2.1 hd ((cv_cat G v).trans hc) ((cv_cat G w).trans hc2) (k p e s m args below meth c H locs ls C hP hS hl)
theorem wp_icmp_eq {x y : Int32} {off : Int} {tgt : Nat} (hd : decode M.2.1 pc = .ok (.if_icmp .eq off, 3)) (ht : (pc : Int) + off = (tgt : Int)) (kt : x = y → WP G d M Q tgt L S h) (kf : ¬ x = y → WP G d M Q (pc + 3) L S h) : WP G d M Q pc L (.int y :: .int x :: S) h := by
  intro p e s m args below meth c H locs ls C hP hS hl
  exact lv_icmp_eq C.1 C.2.1 hd ht (fun q => kt q p e s m args below meth c H locs ls C hP hS hl) (fun q => kf q p e s m args below meth c H locs ls C hP hS hl)
theorem wp_if_eq {x : Int32} {off : Int} {tgt : Nat} (hd : decode M.2.1 pc = .ok (.ifCond .eq off, 3)) (ht : (pc : Int) + off = (tgt : Int)) (kt : x = 0 → WP G d M Q tgt L S h) (kf : ¬ x = 0 → WP G d M Q (pc + 3) L S h) : WP G d M Q pc L (.int x :: S) h := by
  intro p e s m args below meth c H locs ls C hP hS hl
  exact lv_if_eq C.1 C.2.1 hd ht (fun q => kt q p e s m args below meth c H locs ls C hP hS hl) (fun q => kf q p e s m args below meth c H locs ls C hP hS hl)
theorem wp_icmp_ne {x y : Int32} {off : Int} {tgt : Nat} (hd : decode M.2.1 pc = .ok (.if_icmp .ne off, 3)) (ht : (pc : Int) + off = (tgt : Int)) (kt : ¬ x = y → WP G d M Q tgt L S h) (kf : x = y → WP G d M Q (pc + 3) L S h) : WP G d M Q pc L (.int y :: .int x :: S) h := by
  intro p e s m args below meth c H locs ls C hP hS hl
  exact lv_icmp_ne C.1 C.2.1 hd ht (fun q => kt q p e s m args below meth c H locs ls C hP hS hl) (fun q => kf q p e s m args below meth c H locs ls C hP hS hl)
theorem wp_if_ne {x : Int32} {off : Int} {tgt : Nat} (hd : decode M.2.1 pc = .ok (.ifCond .ne off, 3)) (ht : (pc : Int) + off = (tgt : Int)) (kt : ¬ x = 0 → WP G d M Q tgt L S h) (kf : x = 0 → WP G d M Q (pc + 3) L S h) : WP G d M Q pc L (.int x :: S) h := by
  intro p e s m args below meth c H locs ls C hP hS hl
  exact lv_if_ne C.1 C.2.1 hd ht (fun q => kt q p e s m args below meth c H locs ls C hP hS hl) (fun q => kf q p e s m args below meth c H locs ls C hP hS hl)
theorem wp_icmp_lt {x y : Int32} {off : Int} {tgt : Nat} (hd : decode M.2.1 pc = .ok (.if_icmp .lt off, 3)) (ht : (pc : Int) + off = (tgt : Int)) (kt : x < y → WP G d M Q tgt L S h) (kf : ¬ x < y → WP G d M Q (pc + 3) L S h) : WP G d M Q pc L (.int y :: .int x :: S) h := by
  intro p e s m args below meth c H locs ls C hP hS hl
  exact lv_icmp_lt C.1 C.2.1 hd ht (fun q => kt q p e s m args below meth c H locs ls C hP hS hl) (fun q => kf q p e s m args below meth c H locs ls C hP hS hl)
theorem wp_if_lt {x : Int32} {off : Int} {tgt : Nat} (hd : decode M.2.1 pc = .ok (.ifCond .lt off, 3)) (ht : (pc : Int) + off = (tgt : Int)) (kt : x < 0 → WP G d M Q tgt L S h) (kf : ¬ x < 0 → WP G d M Q (pc + 3) L S h) : WP G d M Q pc L (.int x :: S) h := by
  intro p e s m args below meth c H locs ls C hP hS hl
  exact lv_if_lt C.1 C.2.1 hd ht (fun q => kt q p e s m args below meth c H locs ls C hP hS hl) (fun q => kf q p e s m args below meth c H locs ls C hP hS hl)
theorem wp_icmp_ge {x y : Int32} {off : Int} {tgt : Nat} (hd : decode M.2.1 pc = .ok (.if_icmp .ge off, 3)) (ht : (pc : Int) + off = (tgt : Int)) (kt : y ≤ x → WP G d M Q tgt L S h) (kf : ¬ y ≤ x → WP G d M Q (pc + 3) L S h) : WP G d M Q pc L (.int y :: .int x :: S) h := by
  intro p e s m args below meth c H locs ls C hP hS hl
  exact lv_icmp_ge C.1 C.2.1 hd ht (fun q => kt q p e s m args below meth c H locs ls C hP hS hl) (fun q => kf q p e s m args below meth c H locs ls C hP hS hl)
theorem wp_if_ge {x : Int32} {off : Int} {tgt : Nat} (hd : decode M.2.1 pc = .ok (.ifCond .ge off, 3)) (ht : (pc : Int) + off = (tgt : Int)) (kt : 0 ≤ x → WP G d M Q tgt L S h) (kf : ¬ 0 ≤ x → WP G d M Q (pc + 3) L S h) : WP G d M Q pc L (.int x :: S) h := by
  intro p e s m args below meth c H locs ls C hP hS hl
  exact lv_if_ge C.1 C.2.1 hd ht (fun q => kt q p e s m args below meth c H locs ls C hP hS hl) (fun q => kf q p e s m args below meth c H locs ls C hP hS hl)
theorem wp_icmp_gt {x y : Int32} {off : Int} {tgt : Nat} (hd : decode M.2.1 pc = .ok (.if_icmp .gt off, 3)) (ht : (pc : Int) + off = (tgt : Int)) (kt : y < x → WP G d M Q tgt L S h) (kf : ¬ y < x → WP G d M Q (pc + 3) L S h) : WP G d M Q pc L (.int y :: .int x :: S) h := by
  intro p e s m args below meth c H locs ls C hP hS hl
  exact lv_icmp_gt C.1 C.2.1 hd ht (fun q => kt q p e s m args below meth c H locs ls C hP hS hl) (fun q => kf q p e s m args below meth c H locs ls C hP hS hl)
theorem wp_if_gt {x : Int32} {off : Int} {tgt : Nat} (hd : decode M.2.1 pc = .ok (.ifCond .gt off, 3)) (ht : (pc : Int) + off = (tgt : Int)) (kt : 0 < x → WP G d M Q tgt L S h) (kf : ¬ 0 < x → WP G d M Q (pc + 3) L S h) : WP G d M Q pc L (.int x :: S) h := by
  intro p e s m args below meth c H locs ls C hP hS hl
  exact lv_if_gt C.1 C.2.1 hd ht (fun q => kt q p e s m args below meth c H locs ls C hP hS hl) (fun q => kf q p e s m args below meth c H locs ls C hP hS hl)
theorem wp_icmp_le {x y : Int32} {off : Int} {tgt : Nat} (hd : decode M.2.1 pc = .ok (.if_icmp .le off, 3)) (ht : (pc : Int) + off = (tgt : Int)) (kt : x ≤ y → WP G d M Q tgt L S h) (kf : ¬ x ≤ y → WP G d M Q (pc + 3) L S h) : WP G d M Q pc L (.int y :: .int x :: S) h := by
  intro p e s m args below meth c H locs ls C hP hS hl
  exact lv_icmp_le C.1 C.2.1 hd ht (fun q => kt q p e s m args below meth c H locs ls C hP hS hl) (fun q => kf q p e s m args below meth c H locs ls C hP hS hl)
theorem wp_if_le {x : Int32} {off : Int} {tgt : Nat} (hd : decode M.2.1 pc = .ok (.ifCond .le off, 3)) (ht : (pc : Int) + off = (tgt : Int)) (kt : x ≤ 0 → WP G d M Q tgt L S h) (kf : ¬ x ≤ 0 → WP G d M Q (pc + 3) L S h) : WP G d M Q pc L (.int x :: S) h := by
  intro p e s m args below meth c H locs ls C hP hS hl
  exact lv_if_le C.1 C.2.1 hd ht (fun q => kt q p e s m args below meth c H locs ls C hP hS hl) (fun q => kf q p e s m args below meth c H locs ls C hP hS hl)
theorem wp_goto {off : Int} {tgt : Nat} (hd : decode M.2.1 pc = .ok (.goto off, 3)) (ht : (pc : Int) + off = (tgt : Int)) (k : WP G d M Q tgt L S h) : WP G d M Q pc L S h := by
  intro p e s m args below meth c H locs ls C hP hS hl
  exact lv_goto C.1 C.2.1 hd ht (k p e s m args below meth c H locs ls C hP hS hl)
theorem wp_lookup {dflt : Int} {ps : Array (Int × Int)} {len : Nat} {x : Int32} {off : Int} {tgt : Nat} (hd : decode M.2.1 pc = .ok (.lookupswitch dflt ps, len)) (hp : (ps.toList.zip (ps.toList.drop 1)).all (fun (a, next) => a.1 < next.1) = true) (ho : Op.lookupswitch.offset ps.toList dflt x.toInt = off) (ht : (pc : Int) + off = (tgt : Int)) (k : WP G d M Q tgt L S h) : WP G d M Q pc L (.int x :: S) h := by
  intro p e s m args below meth c H locs ls C hP hS hl
  exact lv_lookup C.1 C.2.1 hd hp ho ht (k p e s m args below meth c H locs ls C hP hS hl)
theorem wp_tableOut {dflt lo hi : Int} {offs : Array Int} {len : Nat} {x : Int32} {tgt : Nat} (hd : decode M.2.1 pc = .ok (.tableswitch dflt lo hi offs, len)) (hx : x.toInt < lo ∨ hi < x.toInt) (ht : (pc : Int) + dflt = (tgt : Int)) (k : WP G d M Q tgt L S h) : WP G d M Q pc L (.int x :: S) h := by
  intro p e s m args below meth c H locs ls C hP hS hl
  exact lv_tableOut C.1 C.2.1 hd hx ht (k p e s m args below meth c H locs ls C hP hS hl)
theorem wp_tableIn {dflt lo hi : Int} {offs : Array Int} {len : Nat} {x : Int32} {off : Int} {tgt : Nat} (hd : decode M.2.1 pc = .ok (.tableswitch dflt lo hi offs, len)) (h1 : ¬ x.toInt < lo) (h2 : ¬ hi < x.toInt) (ho : offs[(x.toInt - lo).toNat]? = some off) (ht : (pc : Int) + off = (tgt : Int)) (k : WP G d M Q tgt L S h) : WP G d M Q pc L (.int x :: S) h := by
  intro p e s m args below meth c H locs ls C hP hS hl
  exact lv_tableIn C.1 C.2.1 hd h1 h2 ho ht (k p e s m args below meth c H locs ls C hP hS hl)
theorem wp_ldc {ix : Nat} {v : Int32} (hw : Cond.constant M.1.cls ix v ∈ wAll) (hd : decode M.2.1 pc = .ok (.ldc ix, 2)) (k : WP G d M Q (pc + 2) L (.int v :: S) h) : WP G d M Q pc L S h := by
  intro p e s m args below meth c H locs ls C hP hS hl
  exact lv_ldc C.1 C.2.1 C.2.2.2.2.1 (C.2.2.2.2.2.1 _ hw) hd (k p e s m args below meth c H locs ls C hP hS hl)
theorem wp_ldcw {ix : Nat} {v : Int32} (hw : Cond.constant M.1.cls ix v ∈ wAll) (hd : decode M.2.1 pc = .ok (.ldc_w ix, 3)) (k : WP G d M Q (pc + 3) L (.int v :: S) h) : WP G d M Q pc L S h := by
  intro p e s m args below meth c H locs ls C hP hS hl
  exact lv_ldcw C.1 C.2.1 C.2.2.2.2.1 (C.2.2.2.2.2.1 _ hw) hd (k p e s m args below meth c H locs ls C hP hS hl)
theorem wp_ldc2 {ix : Nat} {v : Int64} (hw : Cond.constantLong M.1.cls ix v ∈ wAll) (hd : decode M.2.1 pc = .ok (.ldc2_w ix, 3)) (k : WP G d M Q (pc + 3) L (.long v :: S) h) : WP G d M Q pc L S h := by
  intro p e s m args below meth c H locs ls C hP hS hl
  exact lv_ldc2 C.1 C.2.1 C.2.2.2.2.1 (C.2.2.2.2.2.1 _ hw) hd (k p e s m args below meth c H locs ls C hP hS hl)
/-- entry ix of own's pool is field j of class ci -/
def FK (own : String) (ix ci j : Nat) : Prop := ∃ (cN : String) (T : u_T) (N : Nat) (ty0 : Nat → FieldType), vwCl[ci]? = some (cN, T, N) ∧ (∀ w ∈ u_ws cN T N, w ∈ wAll) ∧ j < N ∧ Cond.fieldLink own ix cN (T j).2.1 (T j).2.2.1 ∈ wAll ∧ (T j).1 = cN ∧ (∀ k, k < N → parseFieldDescriptor (T k).2.2.1 = some (ty0 k)) ∧ (∀ a, a < N → ∀ b, b < N → a ≠ b → (T a).2.1 ≠ (T b).2.1)
/-- .. not final, of type ty -/
def FP (own : String) (ix ci j : Nat) (ty : FieldType) : Prop := FK own ix ci j ∧ ∀ (q : vw_C), vwCl[ci]? = some q → (q.2.1 j).2.2.2 = false ∧ parseFieldDescriptor (q.2.1 j).2.2.1 = some ty
theorem ce_obj (G : Gt) (m : Nat → Int32) (ci : Nat) (fl : List (Option Nat)) : ce G m (0, ci, fl) = .inr (ci, fvs G m 0 fl) := rfl
theorem ce_int (G : Gt) (m : Nat → Int32) (n : Nat) (fl : List (Option Nat)) : ce G m (1, n, fl) = .inl (gI G, n, .inl m) := rfl
theorem ce_bool (G : Gt) (m : Nat → Int32) (n : Nat) (fl : List (Option Nat)) : ce G m (2, n, fl) = .inl (gZ G, n, .inl m) := rfl
theorem wp_gf {ix ci j a : Nat} {fl : List (Option Nat)} {o : Option Nat} (hf : FK M.1.cls ix ci j) (hd : decode M.2.1 pc = .ok (.getfield ix, 3)) (hsh : shp[a]? = some (0, ci, fl)) (ho : fl[j]? = some o) {v : Value} (hv : fv G (h a) j o = cv G v) (k : WP G d M Q (pc + 3) L (v :: S) h) : WP G d M Q pc L (.ref a :: S) h := by
  intro p e s m args below meth c H locs ls C hP hS hl
  obtain ⟨cN, T, N, ty0, hc, hin, hj, hlk, hT, -, -⟩ := hf
  obtain ⟨hx, hb, hr, hml, hown, hts, hlocks, hK, hz, hi, hnw⟩ := id C
  have hg := wld_get (G := G) (h := h) hsh
  rw [ce_obj] at hg
  have hk := k p e s m args below meth c H locs ls C hP hS hl
  show W _ _ _ _ _ _ _ _ _ _ _ _ _ _ _ (F0 m pc ls (.ref (gr G a) :: S.map (cv G)))
  rw [gr_lt G (shp_lt hsh)]
  exact va_get hx hb hts hin hown hK hP a hg hc j hj (hts _ hlk) (fun x hx9 => by rw [hT] at hx9; exact hx9) (v := cv G v) (by rw [fvs_get, ho, Nat.zero_add]; exact congrArg some hv) hd hk
theorem wp_gfi {ix ci j a : Nat} {fl : List (Option Nat)} (hf : FK M.1.cls ix ci j) (hd : decode M.2.1 pc = .ok (.getfield ix, 3)) (hsh : shp[a]? = some (0, ci, fl)) (ho : fl[j]? = some none) (k : WP G d M Q (pc + 3) L (.int (h a j) :: S) h) : WP G d M Q pc L (.ref a :: S) h := wp_gf hf hd hsh ho rfl k
theorem wp_gfr {ix ci j a r : Nat} {fl : List (Option Nat)} (hf : FK M.1.cls ix ci j) (hd : decode M.2.1 pc = .ok (.getfield ix, 3)) (hsh : shp[a]? = some (0, ci, fl)) (ho : fl[j]? = some (some r)) (hr : r < 112) (k : WP G d M Q (pc + 3) L (.ref r :: S) h) : WP G d M Q pc L (.ref a :: S) h :=
  wp_gf hf hd hsh ho (by show Value.ref (ga G r) = Value.ref (gr G r); rw [gr_lt G hr]) k
theorem wp_gfv {ix ci j a : Nat} {fl : List (Option Nat)} {v : Int32} (hf : FK M.1.cls ix ci j) (hd : decode M.2.1 pc = .ok (.getfield ix, 3)) (hsh : shp[a]? = some (0, ci, fl)) (ho : fl[j]? = some none) (hv : h a j = v) (k : WP G d M Q (pc + 3) L (.int v :: S) h) : WP G d M Q pc L (.ref a :: S) h := by
  subst hv; exact wp_gf hf hd hsh ho rfl k
theorem wp_pf {ix ci j a : Nat} {fl : List (Option Nat)} {ty : FieldType} {v : Int32} (hf : FP M.1.cls ix ci j ty) (hd : decode M.2.1 pc = .ok (.putfield ix, 3)) (hsh : shp[a]? = some (0, ci, fl)) (ho : fl[j]? = some none) (hn : narrow ty (.int v) = .int v) (hfit : fits ty (.int v) = true) (k : WP G d M Q (pc + 3) L S (hs h a j v)) : WP G d M Q pc L (.int v :: .ref a :: S) h := by
  intro p e s m args below meth c H locs ls C hP hS hl
  obtain ⟨⟨cN, T, N, ty0, hc, hin, hj, hlk, hT, hty, hnm⟩, hfp⟩ := hf
  obtain ⟨hfin, hpd⟩ := hfp _ hc
  obtain ⟨hx, hb, hr, hml, hown, hts, hlocks, hK, hz, hi, hnw⟩ := id C
  have hg := wld_get (G := G) (h := h) hsh
  rw [ce_obj] at hg
  show W _ _ _ _ _ _ _ _ _ _ _ _ _ _ _ (F0 m pc ls (.int v :: .ref (gr G a) :: S.map (cv G)))
  rw [gr_lt G (shp_lt hsh)]
  have hlen : j < (fvs G (h a) 0 fl).length := by rw [fvs_len]; exact (List.getElem?_eq_some_iff.mp ho).1
  refine va_put hx hb hts hin ty0 hty hnm hown hK hP (wld_D hi h) hS a hg hc j hj (hts _ hlk) (fun x hx9 => by rw [hT] at hx9; exact hx9) hfin hpd hn hfit hlen hd (fun H1 locs1 hP1 _ hS1 => ?_)
  rw [fvs_set G (h a) ho, wld_set (h' := hs h a j v) hsh (fun i q => hs_ne q) (by rw [hs_at, ce_obj])] at hP1
  exact k p e s m args below meth c H1 locs1 ls C hP1 hS1 hl
theorem wp_iald {a n : Nat} {fl : List (Option Nat)} {i : Int32} (hd : decode M.2.1 pc = .ok (.iaload, 1)) (hsh : shp[a]? = some (1, n, fl)) (hin : vp_in i n) {v : Int32} (hv : h a i.toNatClampNeg = v) (k : WP G d M Q (pc + 1) L (.int v :: S) h) : WP G d M Q pc L (.int i :: .ref a :: S) h := by
  intro p e s m args below meth c H locs ls C hP hS hl
  subst hv
  have hg := wld_get (G := G) (h := h) hsh
  rw [ce_int] at hg
  show W _ _ _ _ _ _ _ _ _ _ _ _ _ _ _ (F0 m pc ls (.int i :: .ref (gr G a) :: S.map (cv G)))
  rw [gr_lt G (shp_lt hsh)]
  exact va_iald C.1 C.2.1 C.2.2.2.2.2.2.2.1 hP a 0 hg rfl hin hd (k p e s m args below meth c H locs ls C hP hS hl)
theorem wp_bald {a n : Nat} {fl : List (Option Nat)} {i : Int32} (hd : decode M.2.1 pc = .ok (.baload, 1)) (hsh : shp[a]? = some (2, n, fl)) (hin : vp_in i n) {v : Int32} (hv : h a i.toNatClampNeg = v) (k : WP G d M Q (pc + 1) L (.int v :: S) h) : WP G d M Q pc L (.int i :: .ref a :: S) h := by
  intro p e s m args below meth c H locs ls C hP hS hl
  subst hv
  have hg := wld_get (G := G) (h := h) hsh
  rw [ce_bool] at hg
  show W _ _ _ _ _ _ _ _ _ _ _ _ _ _ _ (F0 m pc ls (.int i :: .ref (gr G a) :: S.map (cv G)))
  rw [gr_lt G (shp_lt hsh)]
  exact va_zald C.1 C.2.1 C.2.2.2.2.2.2.2.1 hP a 1 hg rfl hin hd (k p e s m args below meth c H locs ls C hP hS hl)
theorem wp_iast {a n : Nat} {fl : List (Option Nat)} {i x : Int32} (hd : decode M.2.1 pc = .ok (.iastore, 1)) (hsh : shp[a]? = some (1, n, fl)) (hin : vp_in i n) {j : Nat} (hj : i.toNatClampNeg = j) (k : WP G d M Q (pc + 1) L S (hs h a j x)) : WP G d M Q pc L (.int x :: .int i :: .ref a :: S) h := by
  intro p e s m args below meth c H locs ls C hP hS hl
  subst hj
  have hg := wld_get (G := G) (h := h) hsh
  rw [ce_int] at hg
  show W _ _ _ _ _ _ _ _ _ _ _ _ _ _ _ (F0 m pc ls (.int x :: .int i :: .ref (gr G a) :: S.map (cv G)))
  rw [gr_lt G (shp_lt hsh)]
  refine va_iast C.1 C.2.1 C.2.2.2.2.2.2.2.1 hP (wld_D C.2.2.2.2.2.2.2.2.2.1 h) hS a 0 hg rfl hin hd (fun H1 locs1 hP1 _ hS1 => ?_)
  rw [wld_set (h' := hs h a i.toNatClampNeg x) hsh (fun i q => hs_ne q) (by rw [hs_at, ce_int])] at hP1
  exact k p e s m args below meth c H1 locs1 ls C hP1 hS1 hl
theorem wp_bast {a n : Nat} {fl : List (Option Nat)} {i x : Int32} (hd : decode M.2.1 pc = .ok (.bastore, 1)) (hsh : shp[a]? = some (2, n, fl)) (hin : vp_in i n) (hx : vp_nar .boolean x = x) {j : Nat} (hj : i.toNatClampNeg = j) (k : WP G d M Q (pc + 1) L S (hs h a j x)) : WP G d M Q pc L (.int x :: .int i :: .ref a :: S) h := by
  intro p e s m args below meth c H locs ls C hP hS hl
  subst hj
  have hg := wld_get (G := G) (h := h) hsh
  rw [ce_bool] at hg
  show W _ _ _ _ _ _ _ _ _ _ _ _ _ _ _ (F0 m pc ls (.int x :: .int i :: .ref (gr G a) :: S.map (cv G)))
  rw [gr_lt G (shp_lt hsh)]
  refine va_zast C.1 C.2.1 C.2.2.2.2.2.2.2.1 hP (wld_D C.2.2.2.2.2.2.2.2.2.1 h) hS a 1 hg rfl hin hd (fun H1 locs1 hP1 _ hS1 => ?_)
  rw [hx, wld_set (h' := hs h a i.toNatClampNeg x) hsh (fun i q => hs_ne q) (by rw [hs_at, ce_bool])] at hP1
  exact k p e s m args below meth c H1 locs1 ls C hP1 hS1 hl
theorem wp_aald {a n b : Nat} {i : Int32} (hd : decode M.2.1 pc = .ok (.aaload, 1)) (hsh : shp[a]? = some (3, n, [some b])) (hin : vp_in i n) {j : Nat} (hj : i.toNatClampNeg = j) (hb : b + n ≤ 112) (k : WP G d M Q (pc + 1) L (.ref (b + j) :: S) h) : WP G d M Q pc L (.int i :: .ref a :: S) h := by
  intro p e s m args below meth c H locs ls C hP hS hl
  subst hj
  have hlt : i.toNatClampNeg < n := Nat.not_le.mp fun q => hin (Or.inr q)
  have hg := wld_get (G := G) (h := h) hsh
  have hk := k p e s m args below meth c H locs ls C hP hS hl
  have e1 : cv G (.ref (b + i.toNatClampNeg)) = va_rf (if i.toNatClampNeg < n then some (ga G (b + i.toNatClampNeg)) else none) := by
    rw [if_pos hlt]; show Value.ref (gr G _) = Value.ref _; rw [gr_lt G (by omega)]
  rw [List.map_cons, e1] at hk
  show W _ _ _ _ _ _ _ _ _ _ _ _ _ _ _ (F0 m pc ls (.int i :: .ref (gr G a) :: S.map (cv G)))
  rw [gr_lt G (shp_lt hsh)]
  have hA := (C.2.2.2.2.2.2.2.1.2 2 (gII G, .array .int) rfl).1 n (fun j => va_rf (if j < n then some (ga G (b + j)) else none))
  exact W.aald (v := va_rf (if i.toNatClampNeg < n then some (ga G (b + i.toNatClampNeg)) else none)) (ty := .array .int) C.1 C.2.1 (hP a _ hg) hA rfl (fun q => by cases q) (by show ¬ (i < 0 ∨ (arrV _ _ _).slots.size ≤ _); rw [arrV_size]; exact hin) (by show (arrV _ _ _).slots[_]? = _; rw [arrV_read _ _ hlt]; rfl) rfl rfl hd hk
/-! the static table -/
theorem wp_gst {ix : Nat} (hw : Cond.fieldLink M.1.cls ix "LentGrannies" "KIND_ABOVE" "[I" ∈ wAll) (hd : decode M.2.1 pc = .ok (.getstatic ix, 3)) (k : WP G d M Q (pc + 3) L (.ref 112 :: S) h) : WP G d M Q pc L S h := by
  intro p e s m args below meth c H locs ls C hP hS hl
  exact va_gets C.1 C.2.1 C.2.2.2.2.2.2.2.2.1.1 hS C.2.2.2.2.1 (C.2.2.2.2.2.1 _ hw) (fun _ h9 => h9) hd (k p e s m args below meth c H locs ls C hP hS hl)
theorem wp_tab {i : Int32} (hd : decode M.2.1 pc = .ok (.iaload, 1)) (hin : vp_in i 6) {v : Int32} (hv : kab i.toNatClampNeg = .int v) (k : WP G d M Q (pc + 1) L (.int v :: S) h) : WP G d M Q pc L (.int i :: .ref 112 :: S) h := by
  intro p e s m args below meth c H locs ls C hP hS hl
  exact va_ti C.1 C.2.1 C.2.2.2.2.2.2.2.2.1.2 hS hin hv hd (k p e s m args below meth c H locs ls C hP hS hl)
theorem wp_tabn (hd : decode M.2.1 pc = .ok (.arraylength, 1)) (k : WP G d M Q (pc + 1) L (.int 6 :: S) h) : WP G d M Q pc L (.ref 112 :: S) h := by
  intro p e s m args below meth c H locs ls C hP hS hl
  exact va_tlen C.1 C.2.1 C.2.2.2.2.2.2.2.2.1.2 hS rfl hd (k p e s m args below meth c H locs ls C hP hS hl)
/-! returns: what comes back is an int, a long, nothing -/
def pI (K : Int32 → Hp → Prop) : Option Value → Hp → Prop := fun r h => ∃ v, r = some (.int v) ∧ K v h
def pJ (K : Int64 → Hp → Prop) : Option Value → Hp → Prop := fun r h => ∃ v, r = some (.long v) ∧ K v h
def pV (K : Hp → Prop) : Option Value → Hp → Prop := fun r h => r = none ∧ K h
theorem wl_end {s t : State} {H : Heap} {locs : List Loc} {p : Program} {m : MethodId} {args : Array Value} {meth : Method} {c : Code} (C : CX G M p s m args meth c) (hP : va_P (gD G) vwCl (wld G h) H) (hS : va_S (gA G) s.heap H locs) (ht : t.heap = H) (hW : s.WarmedH t.vm) : wl G h t t.heap := by
  rw [ht]
  exact ⟨hP, va_K.moved hW.alike C.2.2.2.2.2.2.2.1, zf_on C.2.2.2.2.2.2.2.2.1 hW.alike (fun a h1 h2 => hS.2.1 a h1 h2)⟩
theorem wp_iret {K : Int32 → Hp → Prop} {v : Int32} (hd : decode M.2.1 pc = .ok (.ireturn, 1)) (hr : M.2.2.2 = some .int) (k : K v h) : WP G d M (pI K) pc L [.int v] h := by
  intro p e s m args below meth c H locs ls C hP hS hl
  exact W.iret (v := v) C.1 C.2.1 (C.2.2.1.trans hr) (fun t ht hW => ⟨⟨_, h, rfl, ⟨v, rfl, k⟩, wl_end C hP hS ht hW⟩, hS.F ht⟩) hS.2.2 hd C.2.2.2.2.2.2.1
theorem wp_zret {K : Int32 → Hp → Prop} {v : Int32} (hd : decode M.2.1 pc = .ok (.ireturn, 1)) (hr : M.2.2.2 = some .boolean) (hv : v = 0 ∨ v = 1) (k : K v h) : WP G d M (pI K) pc L [.int v] h := by
  intro p e s m args below meth c H locs ls C hP hS hl
  exact W.zret (v := v) C.1 C.2.1 (C.2.2.1.trans hr) (by rcases hv with rfl | rfl <;> rfl) (fun t ht hW => ⟨⟨_, h, rfl, ⟨v, rfl, k⟩, wl_end C hP hS ht hW⟩, hS.F ht⟩) hS.2.2 hd C.2.2.2.2.2.2.1
theorem wp_lret {K : Int64 → Hp → Prop} {v : Int64} (hd : decode M.2.1 pc = .ok (.lreturn, 1)) (hr : M.2.2.2 = some .long) (k : K v h) : WP G d M (pJ K) pc L [.long v] h := by
  intro p e s m args below meth c H locs ls C hP hS hl
  exact W.lret (v := v) C.1 C.2.1 (C.2.2.1.trans hr) (fun t ht hW => ⟨⟨_, h, rfl, ⟨v, rfl, k⟩, wl_end C hP hS ht hW⟩, hS.F ht⟩) hS.2.2 hd C.2.2.2.2.2.2.1
theorem wp_vret {K : Hp → Prop} (hd : decode M.2.1 pc = .ok (.return_, 1)) (hr : M.2.2.2 = none) (k : K h) : WP G d M (pV K) pc L [] h := by
  intro p e s m args below meth c H locs ls C hP hS hl
  exact W.vret C.1 C.2.1 (C.2.2.1.trans hr) (fun t ht hW => ⟨⟨_, h, rfl, ⟨rfl, k⟩, wl_end C hP hS ht hW⟩, hS.F ht⟩) hS.2.2 hd C.2.2.2.2.2.2.1
end WPR
