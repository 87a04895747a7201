set_option maxHeartbeats 4000000 in
set_option maxRecDepth 100000 in
theorem c_X6_in (l : Launch) (E : EV) (x0 : Int32) (lo : Int32) (hi : Int32)  : KI l yX6_in wsX6_in (rmN 0) E (σ := Unit) [.int x0, .int lo, .int hi] (([] : va_W)) (fun _ => True) (fun _ => (bI (win x0 lo hi))) (fun _ => ([] : va_W)) 0 0 := by
  refine KI.of (cc := cX6_in) (maxL := 3) (ty := .boolean) (hnar := fun _ _ => nar_b _) rfl rfl rfl (fun x hX hin hret hnL => ?_)
  replace hX : CX x l cX6_in RX6 wsX6_in E (rmN 0) := hX
  show GG x 0 0 (([] : va_W)) 0 [(0, .int x0), (1, .int lo), (2, .int hi)] []
  refine g_iload_n hX dX6_in_0 0 rfl ?_
  refine g_iload_n hX dX6_in_1 1 rfl ?_
  refine g_icmp_lt hX 14 dX6_in_2 (by decide) (fun c2 => ?_) (fun c2 => ?_)
  · skip
    refine g_iconst hX (nI 0) dX6_in_14 rfl ?_
    exact g_eq rfl rfl (congrArg (fun z => [Value.int z]) (bret_f (by simp [win, c2]))) (hret () _ _ trivial dX6_in_15)
  · skip
    refine g_iload_n hX dX6_in_5 0 rfl ?_
    refine g_iload_n hX dX6_in_6 2 rfl ?_
    refine g_icmp_gt hX 14 dX6_in_7 (by decide) (fun c7 => ?_) (fun c7 => ?_)
    · skip
      refine g_iconst hX (nI 0) dX6_in_14 rfl ?_
      exact g_eq rfl rfl (congrArg (fun z => [Value.int z]) (bret_f (by simp [win, c2, c7]))) (hret () _ _ trivial dX6_in_15)
    · skip
      refine g_iconst hX (nI 1) dX6_in_10 rfl ?_
      refine g_goto hX 15 dX6_in_11 (by decide) ?_
      exact g_eq rfl rfl (congrArg (fun z => [Value.int z]) (bret_t (by simp [win, c2, c7]))) (hret () _ _ trivial dX6_in_15)
set_option maxHeartbeats 4000000 in
set_option maxRecDepth 100000 in
theorem c_X6_has (l : Launch) (E : EV) (v : Nat) (s : Nat) (hv : v < 2 ^ 31) (hs : s < 32) : KI l yX6_has wsX6_has (rmN 0) E (σ := Unit) [.int (nI v), .int (nI s)] (([] : va_W)) (fun _ => True) (fun _ => (bI (v.testBit s))) (fun _ => ([] : va_W)) 0 0 := by
  refine KI.of (cc := cX6_has) (maxL := 2) (ty := .boolean) (hnar := fun _ _ => nar_b _) rfl rfl rfl (fun x hX hin hret hnL => ?_)
  replace hX : CX x l cX6_has RX6 wsX6_has E (rmN 0) := hX
  show GG x 0 0 (([] : va_W)) 0 [(0, .int (nI v)), (1, .int (nI s))] []
  refine g_iload_n hX dX6_has_0 0 rfl ?_
  refine g_iload_n hX dX6_has_1 1 rfl ?_
  refine g_ishr hX (nI (v >>> s)) dX6_has_2 (sh_r (by omega) (by omega)) ?_
  refine g_iconst hX (nI 1) dX6_has_3 rfl ?_
  refine g_iand hX (bI (v.testBit s)) dX6_has_4 (and1_b _ _) ?_
  refine g_iconst hX (nI 1) dX6_has_5 rfl ?_
  refine g_icmp_ne hX 13 dX6_has_6 (by decide) (fun c6 => ?_) (fun c6 => ?_)
  · replace c6 := mt bI_1.mpr c6
    replace c6 := bNt c6
    refine g_iconst hX (nI 0) dX6_has_13 rfl ?_
    exact g_eq rfl rfl (congrArg (fun z => [Value.int z]) (bret_f (by simp [c6]))) (hret () _ _ trivial dX6_has_14)
  · replace c6 := bI_1.mp c6
    refine g_iconst hX (nI 1) dX6_has_9 rfl ?_
    refine g_goto hX 14 dX6_has_10 (by decide) ?_
    exact g_eq rfl rfl (congrArg (fun z => [Value.int z]) (bret_t (by simp [c6]))) (hret () _ _ trivial dX6_has_14)
set_option maxHeartbeats 4000000 in
set_option maxRecDepth 100000 in
theorem c_X6_bits (l : Launch) (E : EV) (v : Nat) (hv : v < 512) : KI l yX6_bits wsX6_bits (rmN 0) E (σ := Unit) [.int (nI v)] (([] : va_W)) (fun _ => True) (fun _ => (nI (pop v))) (fun _ => ([] : va_W)) 0 0 := by
  refine KI.of (cc := cX6_bits) (maxL := 3) (ty := .int) (hnar := fun _ _ => rfl) rfl rfl rfl (fun x hX hin hret hnL => ?_)
  replace hX : CX x l cX6_bits RX6 wsX6_bits E (rmN 0) := hX
  show GG x 0 0 (([] : va_W)) 0 [(0, .int (nI v))] []
  refine g_iconst hX (nI 0) dX6_bits_0 rfl ?_
  refine g_istore_n hX (j := 1) [(1, .int (nI 0)), (0, .int (nI v))] dX6_bits_1 rfl (by rw [hnL]; rfl) rfl ?_
  refine g_iconst hX (nI 0) dX6_bits_2 rfl ?_
  refine g_istore_n hX (j := 2) [(2, .int (nI 0)), (1, .int (nI 0)), (0, .int (nI v))] dX6_bits_3 rfl (by rw [hnL]; rfl) rfl ?_
  have lp4 : ∀ (fuel : Nat) (i : Nat) (acc : Nat), 9 - i < fuel → (i ≤ 9) → (acc = cnt v.testBit i) → GG x 0 0 (([] : va_W)) 4 [(0, .int (nI v)), (1, .int (nI acc)), (2, .int (nI i))] [] := by
    intro fuel
    induction fuel with
    | zero => intro i acc hm; exact absurd hm (Nat.not_lt_zero _)
    | succ fuel ih4 =>
      intro i acc hm4 hi hacc
      refine g_iload_n hX dX6_bits_4 2 rfl ?_
      refine g_bipush hX (nI 9) dX6_bits_5 rfl ?_
      refine g_icmp_ge hX 24 dX6_bits_7 (by decide) (fun c7 => ?_) (fun c7 => ?_)
      · replace c7 := (nI_leI (by omega) (by omega)).mp c7
        refine g_iload_n hX dX6_bits_24 1 rfl ?_
        exact g_eq rfl rfl (congrArg (fun z => [Value.int z]) (congrArg nI (by rw [hacc, show i = 9 by omega]; exact pop_cnt9 v hv))) (hret () _ _ trivial dX6_bits_25)
      · replace c7 := mt (nI_leI (by omega) (by omega)).mpr c7
        refine g_iload_n hX dX6_bits_10 1 rfl ?_
        refine g_iload_n hX dX6_bits_11 0 rfl ?_
        refine g_iload_n hX dX6_bits_12 2 rfl ?_
        refine g_ishr hX (nI (v >>> i)) dX6_bits_13 (sh_r (by omega) (by omega)) ?_
        refine g_iconst hX (nI 1) dX6_bits_14 rfl ?_
        refine g_iand hX (bI (v.testBit i)) dX6_bits_15 (and1_b _ _) ?_
        refine g_iadd hX (nI (acc + (v.testBit i).toNat)) dX6_bits_16 (nadd_nb _ _) ?_
        refine g_istore_n hX (j := 1) [(1, .int (nI (acc + (v.testBit i).toNat))), (0, .int (nI v)), (2, .int (nI i))] dX6_bits_17 rfl (by rw [hnL]; rfl) rfl ?_
        refine g_iinc hX (j := 2) (nI (i + 1)) [(2, .int (nI (i + 1))), (1, .int (nI (acc + (v.testBit i).toNat))), (0, .int (nI v))] dX6_bits_18 2 rfl (iinc_n _ _) (by rw [hnL]; rfl) rfl ?_
        refine g_goto hX 4 dX6_bits_21 (by decide) ?_
        exact g_lv _ [2, 1, 0] rfl (ih4 (i + 1) (acc + (v.testBit i).toNat) (by omega) (by omega) (by rw [hacc, cnt]))
  exact g_lv _ [2, 1, 0] rfl (lp4 _ 0 0 (Nat.lt_succ_self _) (Nat.zero_le _) rfl)
set_option maxHeartbeats 4000000 in
set_option maxRecDepth 100000 in
theorem c_X6_isFact (l : Launch) (E : EV) (x0 : Int32)  : KI l yX6_isFact wsX6_isFact (rmN 1) E (σ := Unit) [.int x0] (([] : va_W)) (fun _ => True) (fun _ => (bI (win x0 (nI 0) (nI 5)))) (fun _ => ([] : va_W)) 0 0 := by
  refine KI.of (cc := cX6_isFact) (maxL := 1) (ty := .boolean) (hnar := fun _ _ => nar_b _) rfl rfl rfl (fun x hX hin hret hnL => ?_)
  replace hX : CX x l cX6_isFact RX6 wsX6_isFact E (rmN 1) := hX
  show GG x 0 0 (([] : va_W)) 0 [(0, .int x0)] []
  refine g_iload_n hX dX6_isFact_0 0 rfl ?_
  refine g_iconst hX (nI 0) dX6_isFact_1 rfl ?_
  refine g_iconst hX (nI 5) dX6_isFact_2 rfl ?_
  have hc3 : CUT (([] : va_W)) (([] : va_W)) (([] : va_W)) [] [] := ⟨rfl, rfl, rfl, rfl, rfl⟩
  refine g_TI hX hc3 [.int x0, .int (nI 0), .int (nI 5)] [] (c_X6_in l E x0 (nI 0) (nI 5)) gX6_isFact_X6_in calX6_in rfl rfl rfl rfl dX6_isFact_3 rfl ⟨Nat.zero_le _, Nat.zero_le _⟩ (fun _ => ([] : va_W)) [] rfl (fun _ => rfl) (fun _ hu3 => ?_)
  exact g_eq rfl rfl rfl (hret () _ _ trivial dX6_isFact_6)
set_option maxHeartbeats 4000000 in
set_option maxRecDepth 100000 in
theorem c_X6_isFigure (l : Launch) (E : EV) (x0 : Int32)  : KI l yX6_isFigure wsX6_isFigure (rmN 1) E (σ := Unit) [.int x0] (([] : va_W)) (fun _ => True) (fun _ => (bI (win x0 (nI 48) (nI 57)))) (fun _ => ([] : va_W)) 0 0 := by
  refine KI.of (cc := cX6_isFigure) (maxL := 1) (ty := .boolean) (hnar := fun _ _ => nar_b _) rfl rfl rfl (fun x hX hin hret hnL => ?_)
  replace hX : CX x l cX6_isFigure RX6 wsX6_isFigure E (rmN 1) := hX
  show GG x 0 0 (([] : va_W)) 0 [(0, .int x0)] []
  refine g_iload_n hX dX6_isFigure_0 0 rfl ?_
  refine g_bipush hX (nI 48) dX6_isFigure_1 rfl ?_
  refine g_bipush hX (nI 57) dX6_isFigure_3 rfl ?_
  have hc5 : CUT (([] : va_W)) (([] : va_W)) (([] : va_W)) [] [] := ⟨rfl, rfl, rfl, rfl, rfl⟩
  refine g_TI hX hc5 [.int x0, .int (nI 48), .int (nI 57)] [] (c_X6_in l E x0 (nI 48) (nI 57)) gX6_isFigure_X6_in calX6_in rfl rfl rfl rfl dX6_isFigure_5 rfl ⟨Nat.zero_le _, Nat.zero_le _⟩ (fun _ => ([] : va_W)) [] rfl (fun _ => rfl) (fun _ hu5 => ?_)
  exact g_eq rfl rfl rfl (hret () _ _ trivial dX6_isFigure_8)
set_option maxHeartbeats 4000000 in
set_option maxRecDepth 100000 in
theorem c_X6_copies (l : Launch) (E : EV) (p : Nat) (len : Nat) (f : Nat → Int32) (i0 : Nat) (q : Nat) (len2 : Nat) (g : Nat → Int32) (j0 : Nat) (h1 : i0 + 49 ≤ len) (h2 : j0 + 49 ≤ len2) (h3 : len < 2 ^ 20) (h4 : len2 < 2 ^ 20) : KV l yX6_copies wsX6_copies (rmN 0) E (σ := Unit) [.ref p, .int (nI i0), .ref q, .int (nI j0)] ((aw E p len f) ++ (aw E q len2 g)) (fun _ => True) (fun _ => (aw E p len (cpR f g i0 j0)) ++ (aw E q len2 g)) 0 0 := by
  refine KV.of (cc := cX6_copies) (maxL := 5) rfl rfl rfl (fun x hX hin hret hnL => ?_)
  replace hX : CX x l cX6_copies RX6 wsX6_copies E (rmN 0) := hX
  show GG x 0 0 ((aw E p len f) ++ (aw E q len2 g)) 0 [(0, .ref p), (1, .int (nI i0)), (2, .ref q), (3, .int (nI j0))] []
  refine g_iconst hX (nI 0) dX6_copies_0 rfl ?_
  refine g_istore hX (j := 4) [(4, .int (nI 0)), (0, .ref p), (1, .int (nI i0)), (2, .ref q), (3, .int (nI j0))] dX6_copies_1 (by rw [hnL]; rfl) rfl ?_
  have lp3 : ∀ (fuel : Nat) (i : Nat) (z : Nat → Int32), 49 - i < fuel → (i ≤ 49) → (z = cpN f g i0 j0 i) → GG x 0 0 ((aw E p len z) ++ (aw E q len2 g)) 3 [(0, .ref p), (1, .int (nI i0)), (2, .ref q), (3, .int (nI j0)), (4, .int (nI i))] [] := by
    intro fuel
    induction fuel with
    | zero => intro i z hm; exact absurd hm (Nat.not_lt_zero _)
    | succ fuel ih3 =>
      intro i z hm3 hi hz
      refine g_iload hX dX6_copies_3 4 rfl ?_
      refine g_bipush hX (nI 49) dX6_copies_5 rfl ?_
      refine g_icmp_ge hX 28 dX6_copies_7 (by decide) (fun c7 => ?_) (fun c7 => ?_)
      · replace c7 := (nI_leI (by omega) (by omega)).mp c7
        exact g_eq (by rw [hz, show i = 49 by omega] <;> rfl) rfl rfl (hret () _ _ trivial dX6_copies_28)
      · replace c7 := mt (nI_leI (by omega) (by omega)).mpr c7
        refine g_aload_n hX dX6_copies_10 0 rfl ?_
        refine g_iload_n hX dX6_copies_11 1 rfl ?_
        refine g_iload hX dX6_copies_12 4 rfl ?_
        refine g_iadd hX (nI (i0 + i)) dX6_copies_14 (nI_add _ _) ?_
        refine g_aload_n hX dX6_copies_15 2 rfl ?_
        refine g_iload_n hX dX6_copies_16 3 rfl ?_
        refine g_iload hX dX6_copies_17 4 rfl ?_
        refine g_iadd hX (nI (j0 + i)) dX6_copies_19 (nI_add _ _) ?_
        refine g_iald hX (g (j0 + i)) 1 0 rfl rfl (vp_in_nI (by omega) (by omega)) (ald_n (g := fun zz => (g) zz) (i := j0 + i) (by omega)) dX6_copies_20 ?_
        refine g_iast hX (va_up (z) (i0 + i) (g (j0 + i))) ((aw E p len (va_up (z) (i0 + i) (g (j0 + i)))) ++ (aw E q len2 g)) 0 0 rfl rfl (vp_in_nI (by omega) (by omega)) (ast_r (by omega)) dX6_copies_21 rfl ?_
        refine g_iinc hX (j := 4) (nI (i + 1)) [(4, .int (nI (i + 1))), (0, .ref p), (1, .int (nI i0)), (2, .ref q), (3, .int (nI j0))] dX6_copies_22 4 rfl (iinc_n _ _) (by rw [hnL]; rfl) rfl ?_
        refine g_goto hX 3 dX6_copies_25 (by decide) ?_
        exact g_lv _ [1, 2, 3, 4, 0] rfl (ih3 (i + 1) (va_up (z) (i0 + i) (g (j0 + i))) (by omega) (by omega) (by rw [hz]; exact cpN_s))
  exact g_lv _ [1, 2, 3, 4, 0] rfl (lp3 _ 0 f (Nat.lt_succ_self _) (Nat.zero_le _) cpN_0)
set_option maxHeartbeats 4000000 in
set_option maxRecDepth 100000 in
theorem c_X6_isTrue (l : Launch) (E : EV) (q : Nat) (w : Nat) (hq : q < 12) (hw : w < 64) : KI l yX6_isTrue wsX6_isTrue (rmN 1) E (σ := Unit) [.int (nI q), .int (nI w)] (([] : va_W)) (fun _ => True) (fun _ => (bI ((wol q).testBit w))) (fun _ => ([] : va_W)) 0 0 := by
  refine KI.of (cc := cX6_isTrue) (maxL := 2) (ty := .boolean) (hnar := fun _ _ => nar_b _) rfl rfl rfl (fun x hX hin hret hnL => ?_)
  replace hX : CX x l cX6_isTrue RX6 wsX6_isTrue E (rmN 1) := hX
  show GG x 0 0 (([] : va_W)) 0 [(0, .int (nI q)), (1, .int (nI w))] []
  refine g_iload_n hX dX6_isTrue_0 0 rfl ?_
  refine g_bipush hX (nI 6) dX6_isTrue_1 rfl ?_
  refine g_icmp_ge hX 10 dX6_isTrue_3 (by decide) (fun c3 => ?_) (fun c3 => ?_)
  · replace c3 := (nI_leI (by omega) (by omega)).mp c3
    refine g_iconst hX (nI 0) dX6_isTrue_10 rfl ?_
    refine g_iload_n hX dX6_isTrue_11 1 rfl ?_
    refine g_iload_n hX dX6_isTrue_12 0 rfl ?_
    refine g_bipush hX (nI 6) dX6_isTrue_13 rfl ?_
    refine g_irem hX (nI (q % 6)) dX6_isTrue_15 (nI_ne0 (by omega) (by omega)) (pk_rem (by omega) (by omega) (by omega)) ?_
    have hc16 : CUT (([] : va_W)) (([] : va_W)) (([] : va_W)) [] [] := ⟨rfl, rfl, rfl, rfl, rfl⟩
    refine g_TI hX hc16 [.int (nI w), .int (nI (q % 6))] [.int (nI 0)] (c_X6_has l E w (q % 6) (by first | assumption | omega) (by first | assumption | omega)) gX6_isTrue_X6_has calX6_has rfl rfl rfl rfl dX6_isTrue_16 rfl ⟨Nat.zero_le _, Nat.zero_le _⟩ (fun _ => ([] : va_W)) [] rfl (fun _ => rfl) (fun _ hu16 => ?_)
    refine g_icmp_ne hX 26 dX6_isTrue_19 (by decide) (fun c19 => ?_) (fun c19 => ?_)
    · replace c19 := mt bI_0s.mpr c19
      replace c19 := bNf c19
      refine g_iconst hX (nI 0) dX6_isTrue_26 rfl ?_
      exact g_eq rfl rfl (congrArg (fun z => [Value.int z]) (bret_f (by rw [wol_tb hq hw]; first | (rw [if_pos (by omega)]; simp [c3, c19]) | (rw [if_neg (by omega)]; simp [c3, c19])))) (hret () _ _ trivial dX6_isTrue_27)
    · replace c19 := bI_0s.mp c19
      refine g_iconst hX (nI 1) dX6_isTrue_22 rfl ?_
      refine g_goto hX 27 dX6_isTrue_23 (by decide) ?_
      exact g_eq rfl rfl (congrArg (fun z => [Value.int z]) (bret_t (by rw [wol_tb hq hw]; first | (rw [if_pos (by omega)]; simp [c3, c19]) | (rw [if_neg (by omega)]; simp [c3, c19])))) (hret () _ _ trivial dX6_isTrue_27)
  · replace c3 := mt (nI_leI (by omega) (by omega)).mpr c3
    refine g_iconst hX (nI 1) dX6_isTrue_6 rfl ?_
    refine g_goto hX 11 dX6_isTrue_7 (by decide) ?_
    refine g_iload_n hX dX6_isTrue_11 1 rfl ?_
    refine g_iload_n hX dX6_isTrue_12 0 rfl ?_
    refine g_bipush hX (nI 6) dX6_isTrue_13 rfl ?_
    refine g_irem hX (nI (q % 6)) dX6_isTrue_15 (nI_ne0 (by omega) (by omega)) (pk_rem (by omega) (by omega) (by omega)) ?_
    have hc16 : CUT (([] : va_W)) (([] : va_W)) (([] : va_W)) [] [] := ⟨rfl, rfl, rfl, rfl, rfl⟩
    refine g_TI hX hc16 [.int (nI w), .int (nI (q % 6))] [.int (nI 1)] (c_X6_has l E w (q % 6) (by first | assumption | omega) (by first | assumption | omega)) gX6_isTrue_X6_has calX6_has rfl rfl rfl rfl dX6_isTrue_16 rfl ⟨Nat.zero_le _, Nat.zero_le _⟩ (fun _ => ([] : va_W)) [] rfl (fun _ => rfl) (fun _ hu16 => ?_)
    refine g_icmp_ne hX 26 dX6_isTrue_19 (by decide) (fun c19 => ?_) (fun c19 => ?_)
    · replace c19 := mt bI_1s.mpr c19
      replace c19 := bNt c19
      refine g_iconst hX (nI 0) dX6_isTrue_26 rfl ?_
      exact g_eq rfl rfl (congrArg (fun z => [Value.int z]) (bret_f (by rw [wol_tb hq hw]; first | (rw [if_pos (by omega)]; simp [c3, c19]) | (rw [if_neg (by omega)]; simp [c3, c19])))) (hret () _ _ trivial dX6_isTrue_27)
    · replace c19 := bI_1s.mp c19
      refine g_iconst hX (nI 1) dX6_isTrue_22 rfl ?_
      refine g_goto hX 27 dX6_isTrue_23 (by decide) ?_
      exact g_eq rfl rfl (congrArg (fun z => [Value.int z]) (bret_t (by rw [wol_tb hq hw]; first | (rw [if_pos (by omega)]; simp [c3, c19]) | (rw [if_neg (by omega)]; simp [c3, c19])))) (hret () _ _ trivial dX6_isTrue_27)
set_option maxHeartbeats 4000000 in
set_option maxRecDepth 100000 in
theorem c_X6_isSo (l : Launch) (E : EV) (a : Nat → Nat) (M : MV) (C : FC) (s : Nat) (w : Nat) (hC : SO C) (hO : RB C (mO M)) (hs : s < cN C) (hw : w < 64) : KI l yX6_isSo wsX6_isSo (rmN 2) E (σ := Unit) [.ref (a 0), .int (nI s), .int (nI w)] (mw E a M) (fun _ => True) (fun _ => (bI ((cW C s).testBit w))) (fun _ => mw E a M) 0 0 := by
  refine KI.of (cc := cX6_isSo) (maxL := 6) (ty := .boolean) (hnar := fun _ _ => nar_b _) rfl rfl rfl (fun x hX hin hret hnL => ?_)
  replace hX : CX x l cX6_isSo RX6 wsX6_isSo E (rmN 2) := hX
  show GG x 0 0 (mw E a M) 0 [(0, .ref (a 0)), (1, .int (nI s)), (2, .int (nI w))] []
  have inRX6 : ∀ w ∈ wsX60, w ∈ wsX6_isSo := by decide +kernel
  have fl31 : Cond.fieldLink RX6 31 "LieForceModel" "now" "[I" ∈ wsX6_isSo := by decide +kernel
  obtain ⟨⟨h9, h64, h512, hT, hI⟩, hK⟩ := id hC
  have hSK := hK s hs
  have hKs := hSK.1
  have hAs := hSK.2.1
  have hBs := hSK.2.2.1
  have hWs := hSK.2.2.2
  refine g_iconst hX (nI 4) dX6_isSo_0 rfl ?_
  refine g_iconst hX (nI 4) dX6_isSo_1 rfl ?_
  refine g_iload_n hX dX6_isSo_2 1 rfl ?_
  refine g_imul hX (nI (4 * s)) dX6_isSo_3 (pk_mul _ _) ?_
  refine g_iadd hX (nI (4 + (4 * s))) dX6_isSo_4 (nI_add _ _) ?_
  refine g_istore_n hX (j := 3) [(3, .int (nI (4 + (4 * s)))), (0, .ref (a 0)), (1, .int (nI s)), (2, .int (nI w))] dX6_isSo_5 rfl (by rw [hnL]; rfl) rfl ?_
  refine g_aload_n hX dX6_isSo_6 1 rfl ?_
  refine g_get hX (v := .ref (a 8)) 0 inRX6 rfl rfl 14 rfl fl31 rfl rfl dX6_isSo_7 ?_
  refine g_iload_n hX dX6_isSo_10 0 rfl ?_
  refine g_iconst hX (nI 1) dX6_isSo_11 rfl ?_
  refine g_iadd hX (nI ((4 + (4 * s)) + 1)) dX6_isSo_12 (nI_add _ _) ?_
  refine g_iald hX (nI (cA C s)) 8 0 rfl rfl (vp_in_nI (by omega) (by omega)) ((ald_n (g := fun zz => (mO M) zz) (i := (4 + (4 * s)) + 1) (by omega)).trans (RB_A hO (by omega))) dX6_isSo_13 ?_
  refine g_iload_n hX dX6_isSo_14 3 rfl ?_
  have hc15 : CUT (mw E a M) (([] : va_W)) (mw E a M) [] [0, 1, 2, 3, 4, 5, 6, 7, 8, 9, 10, 11, 12] := ⟨rfl, rfl, rfl, rfl, rfl⟩
  refine g_TI hX hc15 [.int (nI (cA C s)), .int (nI w)] [] (c_X6_isTrue l E (cA C s) w (by omega) (by omega)) gX6_isSo_X6_isTrue calX6_isTrue rfl rfl rfl rfl dX6_isSo_15 rfl ⟨Nat.zero_le _, Nat.zero_le _⟩ (fun _ => mw E a M) [0, 1, 2, 3, 4, 5, 6, 7, 8, 9, 10, 11, 12] rfl (fun _ => rfl) (fun _ hu15 => ?_)
  refine g_istore hX (j := 4) [(4, .int (bI ((wol (cA C s)).testBit w))), (3, .int (nI (4 + (4 * s)))), (0, .ref (a 0)), (1, .int (nI s)), (2, .int (nI w))] dX6_isSo_18 (by rw [hnL]; rfl) rfl ?_
  refine g_aload_n hX dX6_isSo_20 2 rfl ?_
  refine g_get hX (v := .ref (a 8)) 0 inRX6 rfl rfl 14 rfl fl31 rfl rfl dX6_isSo_21 ?_
  refine g_iload_n hX dX6_isSo_24 1 rfl ?_
  refine g_iald hX (nI (cK C s)) 8 0 rfl rfl (vp_in_nI (by omega) (by omega)) ((ald_n (g := fun zz => (mO M) zz) (i := 4 + (4 * s)) (by omega)).trans (RB_K hO (by omega))) dX6_isSo_25 ?_
  refine g_if_eq hX 48 dX6_isSo_26 (by decide) (fun c26 => ?_) (fun c26 => ?_)
  · replace c26 := (nz_eq (by omega)).mp c26
    refine g_iconst hX (nI 0) dX6_isSo_48 rfl ?_
    refine g_istore hX (j := 5) [(5, .int (nI 0)), (4, .int (bI ((wol (cA C s)).testBit w))), (3, .int (nI (4 + (4 * s)))), (0, .ref (a 0)), (1, .int (nI s)), (2, .int (nI w))] dX6_isSo_49 (by rw [hnL]; rfl) rfl ?_
    refine g_aload_n hX dX6_isSo_51 3 rfl ?_
    refine g_get hX (v := .ref (a 8)) 0 inRX6 rfl rfl 14 rfl fl31 rfl rfl dX6_isSo_52 ?_
    refine g_iload_n hX dX6_isSo_55 2 rfl ?_
    refine g_iald hX (nI (cK C s)) 8 0 rfl rfl (vp_in_nI (by omega) (by omega)) ((ald_n (g := fun zz => (mO M) zz) (i := 4 + (4 * s)) (by omega)).trans (RB_K hO (by omega))) dX6_isSo_56 ?_
    by_cases sw57_1 : (cK C s) = 1
    · refine g_tin hX 88 dX6_isSo_57 (by rw [sw57_1]; decide) (by rw [sw57_1]; decide) (by rw [sw57_1]; rfl) (by decide) ?_
      refine g_iload hX dX6_isSo_88 1 rfl ?_
      refine g_if_eq hX 102 dX6_isSo_90 (by decide) (fun c90 => ?_) (fun c90 => ?_)
      · replace c90 := bI_0.mp c90
        refine g_iconst hX (nI 0) dX6_isSo_102 rfl ?_
        exact g_eq rfl rfl (congrArg (fun z => [Value.int z]) (bret_f (by first | omega | (rw [hWs, wos_b hAs hw]; simp [c26, sw57_1, c90])))) (hret () _ _ trivial dX6_isSo_103)
      · replace c90 := mt bI_0.mpr c90
        replace c90 := bNf c90
        refine g_iload hX dX6_isSo_93 0 rfl ?_
        refine g_if_eq hX 102 dX6_isSo_95 (by decide) (fun c95 => ?_) (fun c95 => ?_)
        · replace c95 := (nz_eq (by omega)).mp c95
          refine g_iconst hX (nI 0) dX6_isSo_102 rfl ?_
          exact g_eq rfl rfl (congrArg (fun z => [Value.int z]) (bret_f (by first | omega | (rw [hWs, wos_b hAs hw]; simp [c26, sw57_1, c90, c95])))) (hret () _ _ trivial dX6_isSo_103)
        · replace c95 := mt (nz_eq (by omega)).mpr c95
          exact absurd c95 (by simp)
    by_cases sw57_2 : (cK C s) = 2
    · refine g_tin hX 104 dX6_isSo_57 (by rw [sw57_2]; decide) (by rw [sw57_2]; decide) (by rw [sw57_2]; rfl) (by decide) ?_
      refine g_iload hX dX6_isSo_104 1 rfl ?_
      refine g_if_ne hX 114 dX6_isSo_106 (by decide) (fun c106 => ?_) (fun c106 => ?_)
      · replace c106 := mt bI_0.mpr c106
        replace c106 := bNf c106
        refine g_iconst hX (nI 1) dX6_isSo_114 rfl ?_
        refine g_goto hX 119 dX6_isSo_115 (by decide) ?_
        exact g_eq rfl rfl (congrArg (fun z => [Value.int z]) (bret_t (by first | omega | (rw [hWs, wos_b hAs hw]; simp [c26, sw57_2, c106])))) (hret () _ _ trivial dX6_isSo_119)
      · replace c106 := bI_0.mp c106
        refine g_iload hX dX6_isSo_109 0 rfl ?_
        refine g_if_eq hX 118 dX6_isSo_111 (by decide) (fun c111 => ?_) (fun c111 => ?_)
        · replace c111 := (nz_eq (by omega)).mp c111
          refine g_iconst hX (nI 0) dX6_isSo_118 rfl ?_
          exact g_eq rfl rfl (congrArg (fun z => [Value.int z]) (bret_f (by first | omega | (rw [hWs, wos_b hAs hw]; simp [c26, sw57_2, c106, c111])))) (hret () _ _ trivial dX6_isSo_119)
        · replace c111 := mt (nz_eq (by omega)).mpr c111
          exact absurd c111 (by simp)
    by_cases sw57_3 : (cK C s) = 3
    · refine g_tin hX 120 dX6_isSo_57 (by rw [sw57_3]; decide) (by rw [sw57_3]; decide) (by rw [sw57_3]; rfl) (by decide) ?_
      refine g_iload hX dX6_isSo_120 1 rfl ?_
      refine g_if_eq hX 130 dX6_isSo_122 (by decide) (fun c122 => ?_) (fun c122 => ?_)
      · replace c122 := bI_0.mp c122
        refine g_iconst hX (nI 1) dX6_isSo_130 rfl ?_
        refine g_goto hX 135 dX6_isSo_131 (by decide) ?_
        exact g_eq rfl rfl (congrArg (fun z => [Value.int z]) (bret_t (by first | omega | (rw [hWs, wos_b hAs hw]; simp [c26, sw57_3, c122])))) (hret () _ _ trivial dX6_isSo_135)
      · replace c122 := mt bI_0.mpr c122
        replace c122 := bNf c122
        refine g_iload hX dX6_isSo_125 0 rfl ?_
        refine g_if_eq hX 134 dX6_isSo_127 (by decide) (fun c127 => ?_) (fun c127 => ?_)
        · replace c127 := (nz_eq (by omega)).mp c127
          refine g_iconst hX (nI 0) dX6_isSo_134 rfl ?_
          exact g_eq rfl rfl (congrArg (fun z => [Value.int z]) (bret_f (by first | omega | (rw [hWs, wos_b hAs hw]; simp [c26, sw57_3, c122, c127])))) (hret () _ _ trivial dX6_isSo_135)
        · replace c127 := mt (nz_eq (by omega)).mpr c127
          exact absurd c127 (by simp)
    by_cases sw57_4 : (cK C s) = 4
    · refine g_tin hX 136 dX6_isSo_57 (by rw [sw57_4]; decide) (by rw [sw57_4]; decide) (by rw [sw57_4]; rfl) (by decide) ?_
      refine g_iload hX dX6_isSo_136 1 rfl ?_
      refine g_iload hX dX6_isSo_138 0 rfl ?_
      refine g_icmp_eq hX 147 dX6_isSo_140 (by decide) (fun c140 => ?_) (fun c140 => ?_)
      · replace c140 := bI_00.mp c140
        refine g_iconst hX (nI 0) dX6_isSo_147 rfl ?_
        exact g_eq rfl rfl (congrArg (fun z => [Value.int z]) (bret_f (by first | omega | (rw [hWs, wos_b hAs hw]; simp [c26, sw57_4, c140])))) (hret () _ _ trivial dX6_isSo_148)
      · replace c140 := mt bI_00.mpr c140
        replace c140 := bNf c140
        refine g_iconst hX (nI 1) dX6_isSo_143 rfl ?_
        refine g_goto hX 148 dX6_isSo_144 (by decide) ?_
        exact g_eq rfl rfl (congrArg (fun z => [Value.int z]) (bret_t (by first | omega | (rw [hWs, wos_b hAs hw]; simp [c26, sw57_4, c140])))) (hret () _ _ trivial dX6_isSo_148)
    refine g_tout hX 149 dX6_isSo_57 (by rw [nI_toInt (by omega)]; omega) (by decide) ?_
    refine g_iload hX dX6_isSo_149 1 rfl ?_
    exact g_eq rfl rfl (congrArg (fun z => [Value.int z]) (congrArg bI (by rw [hWs, wos_b hAs hw]; simp [c26, sw57_1, sw57_2, sw57_3, sw57_4]))) (hret () _ _ trivial dX6_isSo_151)
  · replace c26 := mt (nz_eq (by omega)).mpr c26
    refine g_aload_n hX dX6_isSo_29 2 rfl ?_
    refine g_get hX (v := .ref (a 8)) 0 inRX6 rfl rfl 14 rfl fl31 rfl rfl dX6_isSo_30 ?_
    refine g_iload_n hX dX6_isSo_33 1 rfl ?_
    refine g_iconst hX (nI 2) dX6_isSo_34 rfl ?_
    refine g_iadd hX (nI ((4 + (4 * s)) + 2)) dX6_isSo_35 (nI_add _ _) ?_
    refine g_iald hX (nI (cB C s)) 8 0 rfl rfl (vp_in_nI (by omega) (by omega)) ((ald_n (g := fun zz => (mO M) zz) (i := (4 + (4 * s)) + 2) (by omega)).trans (RB_Bn hO (by omega) c26)) dX6_isSo_36 ?_
    refine g_iload_n hX dX6_isSo_37 4 rfl ?_
    have hc38 : CUT (mw E a M) (([] : va_W)) (mw E a M) [] [0, 1, 2, 3, 4, 5, 6, 7, 8, 9, 10, 11, 12] := ⟨rfl, rfl, rfl, rfl, rfl⟩
    refine g_TI hX hc38 [.int (nI (cB C s)), .int (nI w)] [] (c_X6_isTrue l E (cB C s) w (by omega) (by omega)) gX6_isSo_X6_isTrue calX6_isTrue rfl rfl rfl rfl dX6_isSo_38 rfl ⟨Nat.zero_le _, Nat.zero_le _⟩ (fun _ => mw E a M) [0, 1, 2, 3, 4, 5, 6, 7, 8, 9, 10, 11, 12] rfl (fun _ => rfl) (fun _ hu38 => ?_)
    refine g_if_eq hX 48 dX6_isSo_41 (by decide) (fun c41 => ?_) (fun c41 => ?_)
    · replace c41 := bI_0.mp c41
      refine g_iconst hX (nI 0) dX6_isSo_48 rfl ?_
      refine g_istore hX (j := 5) [(5, .int (nI 0)), (4, .int (bI ((wol (cA C s)).testBit w))), (3, .int (nI (4 + (4 * s)))), (0, .ref (a 0)), (1, .int (nI s)), (2, .int (nI w))] dX6_isSo_49 (by rw [hnL]; rfl) rfl ?_
      refine g_aload_n hX dX6_isSo_51 3 rfl ?_
      refine g_get hX (v := .ref (a 8)) 0 inRX6 rfl rfl 14 rfl fl31 rfl rfl dX6_isSo_52 ?_
      refine g_iload_n hX dX6_isSo_55 2 rfl ?_
      refine g_iald hX (nI (cK C s)) 8 0 rfl rfl (vp_in_nI (by omega) (by omega)) ((ald_n (g := fun zz => (mO M) zz) (i := 4 + (4 * s)) (by omega)).trans (RB_K hO (by omega))) dX6_isSo_56 ?_
      by_cases sw57_1 : (cK C s) = 1
      · refine g_tin hX 88 dX6_isSo_57 (by rw [sw57_1]; decide) (by rw [sw57_1]; decide) (by rw [sw57_1]; rfl) (by decide) ?_
        refine g_iload hX dX6_isSo_88 1 rfl ?_
        refine g_if_eq hX 102 dX6_isSo_90 (by decide) (fun c90 => ?_) (fun c90 => ?_)
        · replace c90 := bI_0.mp c90
          refine g_iconst hX (nI 0) dX6_isSo_102 rfl ?_
          exact g_eq rfl rfl (congrArg (fun z => [Value.int z]) (bret_f (by first | omega | (rw [hWs, wos_b hAs hw]; simp [c26, c41, sw57_1, c90])))) (hret () _ _ trivial dX6_isSo_103)
        · replace c90 := mt bI_0.mpr c90
          replace c90 := bNf c90
          refine g_iload hX dX6_isSo_93 0 rfl ?_
          refine g_if_eq hX 102 dX6_isSo_95 (by decide) (fun c95 => ?_) (fun c95 => ?_)
          · replace c95 := (nz_eq (by omega)).mp c95
            refine g_iconst hX (nI 0) dX6_isSo_102 rfl ?_
            exact g_eq rfl rfl (congrArg (fun z => [Value.int z]) (bret_f (by first | omega | (rw [hWs, wos_b hAs hw]; simp [c26, c41, sw57_1, c90, c95])))) (hret () _ _ trivial dX6_isSo_103)
          · replace c95 := mt (nz_eq (by omega)).mpr c95
            exact absurd c95 (by simp)
      by_cases sw57_2 : (cK C s) = 2
      · refine g_tin hX 104 dX6_isSo_57 (by rw [sw57_2]; decide) (by rw [sw57_2]; decide) (by rw [sw57_2]; rfl) (by decide) ?_
        refine g_iload hX dX6_isSo_104 1 rfl ?_
        refine g_if_ne hX 114 dX6_isSo_106 (by decide) (fun c106 => ?_) (fun c106 => ?_)
        · replace c106 := mt bI_0.mpr c106
          replace c106 := bNf c106
          refine g_iconst hX (nI 1) dX6_isSo_114 rfl ?_
          refine g_goto hX 119 dX6_isSo_115 (by decide) ?_
          exact g_eq rfl rfl (congrArg (fun z => [Value.int z]) (bret_t (by first | omega | (rw [hWs, wos_b hAs hw]; simp [c26, c41, sw57_2, c106])))) (hret () _ _ trivial dX6_isSo_119)
        · replace c106 := bI_0.mp c106
          refine g_iload hX dX6_isSo_109 0 rfl ?_
          refine g_if_eq hX 118 dX6_isSo_111 (by decide) (fun c111 => ?_) (fun c111 => ?_)
          · replace c111 := (nz_eq (by omega)).mp c111
            refine g_iconst hX (nI 0) dX6_isSo_118 rfl ?_
            exact g_eq rfl rfl (congrArg (fun z => [Value.int z]) (bret_f (by first | omega | (rw [hWs, wos_b hAs hw]; simp [c26, c41, sw57_2, c106, c111])))) (hret () _ _ trivial dX6_isSo_119)
          · replace c111 := mt (nz_eq (by omega)).mpr c111
            exact absurd c111 (by simp)
      by_cases sw57_3 : (cK C s) = 3
      · refine g_tin hX 120 dX6_isSo_57 (by rw [sw57_3]; decide) (by rw [sw57_3]; decide) (by rw [sw57_3]; rfl) (by decide) ?_
        refine g_iload hX dX6_isSo_120 1 rfl ?_
        refine g_if_eq hX 130 dX6_isSo_122 (by decide) (fun c122 => ?_) (fun c122 => ?_)
        · replace c122 := bI_0.mp c122
          refine g_iconst hX (nI 1) dX6_isSo_130 rfl ?_
          refine g_goto hX 135 dX6_isSo_131 (by decide) ?_
          exact g_eq rfl rfl (congrArg (fun z => [Value.int z]) (bret_t (by first | omega | (rw [hWs, wos_b hAs hw]; simp [c26, c41, sw57_3, c122])))) (hret () _ _ trivial dX6_isSo_135)
        · replace c122 := mt bI_0.mpr c122
          replace c122 := bNf c122
          refine g_iload hX dX6_isSo_125 0 rfl ?_
          refine g_if_eq hX 134 dX6_isSo_127 (by decide) (fun c127 => ?_) (fun c127 => ?_)
          · replace c127 := (nz_eq (by omega)).mp c127
            refine g_iconst hX (nI 0) dX6_isSo_134 rfl ?_
            exact g_eq rfl rfl (congrArg (fun z => [Value.int z]) (bret_f (by first | omega | (rw [hWs, wos_b hAs hw]; simp [c26, c41, sw57_3, c122, c127])))) (hret () _ _ trivial dX6_isSo_135)
          · replace c127 := mt (nz_eq (by omega)).mpr c127
            exact absurd c127 (by simp)
      by_cases sw57_4 : (cK C s) = 4
      · refine g_tin hX 136 dX6_isSo_57 (by rw [sw57_4]; decide) (by rw [sw57_4]; decide) (by rw [sw57_4]; rfl) (by decide) ?_
        refine g_iload hX dX6_isSo_136 1 rfl ?_
        refine g_iload hX dX6_isSo_138 0 rfl ?_
        refine g_icmp_eq hX 147 dX6_isSo_140 (by decide) (fun c140 => ?_) (fun c140 => ?_)
        · replace c140 := bI_00.mp c140
          refine g_iconst hX (nI 0) dX6_isSo_147 rfl ?_
          exact g_eq rfl rfl (congrArg (fun z => [Value.int z]) (bret_f (by first | omega | (rw [hWs, wos_b hAs hw]; simp [c26, c41, sw57_4, c140])))) (hret () _ _ trivial dX6_isSo_148)
        · replace c140 := mt bI_00.mpr c140
          replace c140 := bNf c140
          refine g_iconst hX (nI 1) dX6_isSo_143 rfl ?_
          refine g_goto hX 148 dX6_isSo_144 (by decide) ?_
          exact g_eq rfl rfl (congrArg (fun z => [Value.int z]) (bret_t (by first | omega | (rw [hWs, wos_b hAs hw]; simp [c26, c41, sw57_4, c140])))) (hret () _ _ trivial dX6_isSo_148)
      refine g_tout hX 149 dX6_isSo_57 (by rw [nI_toInt (by omega)]; omega) (by decide) ?_
      refine g_iload hX dX6_isSo_149 1 rfl ?_
      exact g_eq rfl rfl (congrArg (fun z => [Value.int z]) (congrArg bI (by rw [hWs, wos_b hAs hw]; simp [c26, c41, sw57_1, sw57_2, sw57_3, sw57_4]))) (hret () _ _ trivial dX6_isSo_151)
    · replace c41 := mt bI_0.mpr c41
      replace c41 := bNf c41
      refine g_iconst hX (nI 1) dX6_isSo_44 rfl ?_
      refine g_goto hX 49 dX6_isSo_45 (by decide) ?_
      refine g_istore hX (j := 5) [(5, .int (nI 1)), (4, .int (bI ((wol (cA C s)).testBit w))), (3, .int (nI (4 + (4 * s)))), (0, .ref (a 0)), (1, .int (nI s)), (2, .int (nI w))] dX6_isSo_49 (by rw [hnL]; rfl) rfl ?_
      refine g_aload_n hX dX6_isSo_51 3 rfl ?_
      refine g_get hX (v := .ref (a 8)) 0 inRX6 rfl rfl 14 rfl fl31 rfl rfl dX6_isSo_52 ?_
      refine g_iload_n hX dX6_isSo_55 2 rfl ?_
      refine g_iald hX (nI (cK C s)) 8 0 rfl rfl (vp_in_nI (by omega) (by omega)) ((ald_n (g := fun zz => (mO M) zz) (i := 4 + (4 * s)) (by omega)).trans (RB_K hO (by omega))) dX6_isSo_56 ?_
      by_cases sw57_1 : (cK C s) = 1
      · refine g_tin hX 88 dX6_isSo_57 (by rw [sw57_1]; decide) (by rw [sw57_1]; decide) (by rw [sw57_1]; rfl) (by decide) ?_
        refine g_iload hX dX6_isSo_88 1 rfl ?_
        refine g_if_eq hX 102 dX6_isSo_90 (by decide) (fun c90 => ?_) (fun c90 => ?_)
        · replace c90 := bI_0.mp c90
          refine g_iconst hX (nI 0) dX6_isSo_102 rfl ?_
          exact g_eq rfl rfl (congrArg (fun z => [Value.int z]) (bret_f (by first | omega | (rw [hWs, wos_b hAs hw]; simp [c26, c41, sw57_1, c90])))) (hret () _ _ trivial dX6_isSo_103)
        · replace c90 := mt bI_0.mpr c90
          replace c90 := bNf c90
          refine g_iload hX dX6_isSo_93 0 rfl ?_
          refine g_if_eq hX 102 dX6_isSo_95 (by decide) (fun c95 => ?_) (fun c95 => ?_)
          · replace c95 := (nz_eq (by omega)).mp c95
            exact absurd c95 (by simp)
          · replace c95 := mt (nz_eq (by omega)).mpr c95
            refine g_iconst hX (nI 1) dX6_isSo_98 rfl ?_
            refine g_goto hX 103 dX6_isSo_99 (by decide) ?_
            exact g_eq rfl rfl (congrArg (fun z => [Value.int z]) (bret_t (by first | omega | (rw [hWs, wos_b hAs hw]; simp [c26, c41, sw57_1, c90, c95])))) (hret () _ _ trivial dX6_isSo_103)
      by_cases sw57_2 : (cK C s) = 2
      · refine g_tin hX 104 dX6_isSo_57 (by rw [sw57_2]; decide) (by rw [sw57_2]; decide) (by rw [sw57_2]; rfl) (by decide) ?_
        refine g_iload hX dX6_isSo_104 1 rfl ?_
        refine g_if_ne hX 114 dX6_isSo_106 (by decide) (fun c106 => ?_) (fun c106 => ?_)
        · replace c106 := mt bI_0.mpr c106
          replace c106 := bNf c106
          refine g_iconst hX (nI 1) dX6_isSo_114 rfl ?_
          refine g_goto hX 119 dX6_isSo_115 (by decide) ?_
          exact g_eq rfl rfl (congrArg (fun z => [Value.int z]) (bret_t (by first | omega | (rw [hWs, wos_b hAs hw]; simp [c26, c41, sw57_2, c106])))) (hret () _ _ trivial dX6_isSo_119)
        · replace c106 := bI_0.mp c106
          refine g_iload hX dX6_isSo_109 0 rfl ?_
          refine g_if_eq hX 118 dX6_isSo_111 (by decide) (fun c111 => ?_) (fun c111 => ?_)
          · replace c111 := (nz_eq (by omega)).mp c111
            exact absurd c111 (by simp)
          · replace c111 := mt (nz_eq (by omega)).mpr c111
            refine g_iconst hX (nI 1) dX6_isSo_114 rfl ?_
            refine g_goto hX 119 dX6_isSo_115 (by decide) ?_
            exact g_eq rfl rfl (congrArg (fun z => [Value.int z]) (bret_t (by first | omega | (rw [hWs, wos_b hAs hw]; simp [c26, c41, sw57_2, c106, c111])))) (hret () _ _ trivial dX6_isSo_119)
      by_cases sw57_3 : (cK C s) = 3
      · refine g_tin hX 120 dX6_isSo_57 (by rw [sw57_3]; decide) (by rw [sw57_3]; decide) (by rw [sw57_3]; rfl) (by decide) ?_
        refine g_iload hX dX6_isSo_120 1 rfl ?_
        refine g_if_eq hX 130 dX6_isSo_122 (by decide) (fun c122 => ?_) (fun c122 => ?_)
        · replace c122 := bI_0.mp c122
          refine g_iconst hX (nI 1) dX6_isSo_130 rfl ?_
          refine g_goto hX 135 dX6_isSo_131 (by decide) ?_
          exact g_eq rfl rfl (congrArg (fun z => [Value.int z]) (bret_t (by first | omega | (rw [hWs, wos_b hAs hw]; simp [c26, c41, sw57_3, c122])))) (hret () _ _ trivial dX6_isSo_135)
        · replace c122 := mt bI_0.mpr c122
          replace c122 := bNf c122
          refine g_iload hX dX6_isSo_125 0 rfl ?_
          refine g_if_eq hX 134 dX6_isSo_127 (by decide) (fun c127 => ?_) (fun c127 => ?_)
          · replace c127 := (nz_eq (by omega)).mp c127
            exact absurd c127 (by simp)
          · replace c127 := mt (nz_eq (by omega)).mpr c127
            refine g_iconst hX (nI 1) dX6_isSo_130 rfl ?_
            refine g_goto hX 135 dX6_isSo_131 (by decide) ?_
            exact g_eq rfl rfl (congrArg (fun z => [Value.int z]) (bret_t (by first | omega | (rw [hWs, wos_b hAs hw]; simp [c26, c41, sw57_3, c122, c127])))) (hret () _ _ trivial dX6_isSo_135)
      by_cases sw57_4 : (cK C s) = 4
      · refine g_tin hX 136 dX6_isSo_57 (by rw [sw57_4]; decide) (by rw [sw57_4]; decide) (by rw [sw57_4]; rfl) (by decide) ?_
        refine g_iload hX dX6_isSo_136 1 rfl ?_
        refine g_iload hX dX6_isSo_138 0 rfl ?_
        refine g_icmp_eq hX 147 dX6_isSo_140 (by decide) (fun c140 => ?_) (fun c140 => ?_)
        · replace c140 := bI_1.mp c140
          refine g_iconst hX (nI 0) dX6_isSo_147 rfl ?_
          exact g_eq rfl rfl (congrArg (fun z => [Value.int z]) (bret_f (by first | omega | (rw [hWs, wos_b hAs hw]; simp [c26, c41, sw57_4, c140])))) (hret () _ _ trivial dX6_isSo_148)
        · replace c140 := mt bI_1.mpr c140
          replace c140 := bNt c140
          refine g_iconst hX (nI 1) dX6_isSo_143 rfl ?_
          refine g_goto hX 148 dX6_isSo_144 (by decide) ?_
          exact g_eq rfl rfl (congrArg (fun z => [Value.int z]) (bret_t (by first | omega | (rw [hWs, wos_b hAs hw]; simp [c26, c41, sw57_4, c140])))) (hret () _ _ trivial dX6_isSo_148)
      refine g_tout hX 149 dX6_isSo_57 (by rw [nI_toInt (by omega)]; omega) (by decide) ?_
      refine g_iload hX dX6_isSo_149 1 rfl ?_
      exact g_eq rfl rfl (congrArg (fun z => [Value.int z]) (congrArg bI (by rw [hWs, wos_b hAs hw]; simp [c26, c41, sw57_1, sw57_2, sw57_3, sw57_4]))) (hret () _ _ trivial dX6_isSo_151)
set_option maxHeartbeats 4000000 in
set_option maxRecDepth 100000 in
theorem c_X6_policeIn (l : Launch) (E : EV) (a : Nat → Nat) (M : MV) (C : FC) (w : Nat) (hC : SO C) (hO : RB C (mO M)) (hw : w < 64) : KI l yX6_policeIn wsX6_policeIn (rmN 3) E (σ := Unit) [.ref (a 0), .int (nI w)] (mw E a M) (fun _ => True) (fun _ => (nI (lieM C w))) (fun _ => mw E a M) 0 0 := by
  refine KI.of (cc := cX6_policeIn) (maxL := 4) (ty := .int) (hnar := fun _ _ => rfl) rfl rfl rfl (fun x hX hin hret hnL => ?_)
  replace hX : CX x l cX6_policeIn RX6 wsX6_policeIn E (rmN 3) := hX
  show GG x 0 0 (mw E a M) 0 [(0, .ref (a 0)), (1, .int (nI w))] []
  have inRX6 : ∀ w ∈ wsX60, w ∈ wsX6_policeIn := by decide +kernel
  have fl31 : Cond.fieldLink RX6 31 "LieForceModel" "now" "[I" ∈ wsX6_policeIn := by decide +kernel
  obtain ⟨⟨h9, h64, h512, hT, hI⟩, hK⟩ := id hC
  refine g_iconst hX (nI 0) dX6_policeIn_0 rfl ?_
  refine g_istore_n hX (j := 2) [(2, .int (nI 0)), (0, .ref (a 0)), (1, .int (nI w))] dX6_policeIn_1 rfl (by rw [hnL]; rfl) rfl ?_
  refine g_iconst hX (nI 0) dX6_policeIn_2 rfl ?_
  refine g_istore_n hX (j := 3) [(3, .int (nI 0)), (2, .int (nI 0)), (0, .ref (a 0)), (1, .int (nI w))] dX6_policeIn_3 rfl (by rw [hnL]; rfl) rfl ?_
  have lp4 : ∀ (fuel : Nat) (i : Nat) (acc : Nat), cN C - i < fuel → (i ≤ cN C) → (acc = bitsOf (liB C w) i) → GG x 0 0 (mw E a M) 4 [(0, .ref (a 0)), (1, .int (nI w)), (2, .int (nI acc)), (3, .int (nI i))] [] := by
    intro fuel
    induction fuel with
    | zero => intro i acc hm; exact absurd hm (Nat.not_lt_zero _)
    | succ fuel ih4 =>
      intro i acc hm4 hi hacc
      refine g_iload_n hX dX6_policeIn_4 3 rfl ?_
      refine g_aload_n hX dX6_policeIn_5 0 rfl ?_
      refine g_get hX (v := .ref (a 8)) 0 inRX6 rfl rfl 14 rfl fl31 rfl rfl dX6_policeIn_6 ?_
      refine g_iconst hX (nI 2) dX6_policeIn_9 rfl ?_
      refine g_iald hX (nI (cN C)) 8 0 rfl rfl (vp_in_nI (by omega) (by omega)) ((ald_n (g := fun zz => (mO M) zz) (i := 2) (by omega)).trans (RB_N hO)) dX6_policeIn_10 ?_
      refine g_icmp_ge hX 52 dX6_policeIn_11 (by decide) (fun c11 => ?_) (fun c11 => ?_)
      · replace c11 := (nI_leI (by omega) (by omega)).mp c11
        refine g_iload_n hX dX6_policeIn_52 2 rfl ?_
        exact g_eq rfl rfl (congrArg (fun z => [Value.int z]) (congrArg nI (by rw [hacc, show i = cN C by omega]; rfl))) (hret () _ _ trivial dX6_policeIn_53)
      · replace c11 := mt (nI_leI (by omega) (by omega)).mpr c11
        refine g_iload_n hX dX6_policeIn_14 2 rfl ?_
        refine g_aload_n hX dX6_policeIn_15 0 rfl ?_
        refine g_get hX (v := .ref (a 8)) 0 inRX6 rfl rfl 14 rfl fl31 rfl rfl dX6_policeIn_16 ?_
        refine g_iconst hX (nI 3) dX6_policeIn_19 rfl ?_
        refine g_iald hX (nI (cG C)) 8 0 rfl rfl (vp_in_nI (by omega) (by omega)) ((ald_n (g := fun zz => (mO M) zz) (i := 3) (by omega)).trans (RB_G hO)) dX6_policeIn_20 ?_
        refine g_iload_n hX dX6_policeIn_21 3 rfl ?_
        have hc22 : CUT (mw E a M) (([] : va_W)) (mw E a M) [] [0, 1, 2, 3, 4, 5, 6, 7, 8, 9, 10, 11, 12] := ⟨rfl, rfl, rfl, rfl, rfl⟩
        refine g_TI hX hc22 [.int (nI (cG C)), .int (nI i)] [.int (nI acc)] (c_X6_has l E (cG C) i (by first | assumption | omega) (by first | assumption | omega)) gX6_policeIn_X6_has calX6_has rfl rfl rfl rfl dX6_policeIn_22 rfl ⟨Nat.zero_le _, Nat.zero_le _⟩ (fun _ => mw E a M) [0, 1, 2, 3, 4, 5, 6, 7, 8, 9, 10, 11, 12] rfl (fun _ => rfl) (fun _ hu22 => ?_)
        refine g_if_ne hX 43 dX6_policeIn_25 (by decide) (fun c25 => ?_) (fun c25 => ?_)
        · replace c25 := mt bI_0.mpr c25
          replace c25 := bNf c25
          refine g_iconst hX (nI 0) dX6_policeIn_43 rfl ?_
          refine g_ior hX (nI (acc ||| 0)) dX6_policeIn_44 (fa_or _ _) ?_
          refine g_istore_n hX (j := 2) [(2, .int (nI (acc ||| 0))), (0, .ref (a 0)), (1, .int (nI w)), (3, .int (nI i))] dX6_policeIn_45 rfl (by rw [hnL]; rfl) rfl ?_
          refine g_iinc hX (j := 3) (nI (i + 1)) [(3, .int (nI (i + 1))), (2, .int (nI (acc ||| 0))), (0, .ref (a 0)), (1, .int (nI w))] dX6_policeIn_46 3 rfl (iinc_n _ _) (by rw [hnL]; rfl) rfl ?_
          refine g_goto hX 4 dX6_policeIn_49 (by decide) ?_
          exact g_lv _ [2, 3, 1, 0] rfl (ih4 (i + 1) (acc ||| 0) (by omega) (by omega) (by rw [hacc, bitsOf]; simp [liB, c11, c25]))
        · replace c25 := bI_0.mp c25
          refine g_aload_n hX dX6_policeIn_28 0 rfl ?_
          refine g_iload_n hX dX6_policeIn_29 3 rfl ?_
          refine g_iload_n hX dX6_policeIn_30 1 rfl ?_
          have hc31 : CUT (mw E a M) (mw E a M) (([] : va_W)) [0, 1, 2, 3, 4, 5, 6, 7, 8, 9, 10, 11, 12] [] := ⟨rfl, rfl, rfl, rfl, rfl⟩
          refine g_VI hX hc31 [.int (nI i), .int (nI w)] [.int (nI acc)] (c_X6_isSo l E a M C i w (by first | assumption | omega) (by first | assumption | omega) (by omega) (by omega)) gX6_policeIn_X6_isSo calX6_isSo rfl rfl rfl rfl 0 rfl rfl rfl rfl dX6_policeIn_31 rfl ⟨Nat.zero_le _, Nat.zero_le _⟩ (fun _ => mw E a M) [0, 1, 2, 3, 4, 5, 6, 7, 8, 9, 10, 11, 12] rfl (fun _ => rfl) (fun _ hu31 => ?_)
          refine g_if_ne hX 43 dX6_policeIn_34 (by decide) (fun c34 => ?_) (fun c34 => ?_)
          · replace c34 := mt bI_0.mpr c34
            replace c34 := bNf c34
            refine g_iconst hX (nI 0) dX6_policeIn_43 rfl ?_
            refine g_ior hX (nI (acc ||| 0)) dX6_policeIn_44 (fa_or _ _) ?_
            refine g_istore_n hX (j := 2) [(2, .int (nI (acc ||| 0))), (0, .ref (a 0)), (1, .int (nI w)), (3, .int (nI i))] dX6_policeIn_45 rfl (by rw [hnL]; rfl) rfl ?_
            refine g_iinc hX (j := 3) (nI (i + 1)) [(3, .int (nI (i + 1))), (2, .int (nI (acc ||| 0))), (0, .ref (a 0)), (1, .int (nI w))] dX6_policeIn_46 3 rfl (iinc_n _ _) (by rw [hnL]; rfl) rfl ?_
            refine g_goto hX 4 dX6_policeIn_49 (by decide) ?_
            exact g_lv _ [2, 3, 1, 0] rfl (ih4 (i + 1) (acc ||| 0) (by omega) (by omega) (by rw [hacc, bitsOf]; simp [liB, c11, c25, c34]))
          · replace c34 := bI_0.mp c34
            refine g_iconst hX (nI 1) dX6_policeIn_37 rfl ?_
            refine g_iload_n hX dX6_policeIn_38 3 rfl ?_
            refine g_ishl hX (nI (1 <<< i)) dX6_policeIn_39 (sh_l _ (by omega)) ?_
            refine g_goto hX 44 dX6_policeIn_40 (by decide) ?_
            refine g_ior hX (nI (acc ||| (1 <<< i))) dX6_policeIn_44 (fa_or _ _) ?_
            refine g_istore_n hX (j := 2) [(2, .int (nI (acc ||| (1 <<< i)))), (0, .ref (a 0)), (1, .int (nI w)), (3, .int (nI i))] dX6_policeIn_45 rfl (by rw [hnL]; rfl) rfl ?_
            refine g_iinc hX (j := 3) (nI (i + 1)) [(3, .int (nI (i + 1))), (2, .int (nI (acc ||| (1 <<< i)))), (0, .ref (a 0)), (1, .int (nI w))] dX6_policeIn_46 3 rfl (iinc_n _ _) (by rw [hnL]; rfl) rfl ?_
            refine g_goto hX 4 dX6_policeIn_49 (by decide) ?_
            exact g_lv _ [2, 3, 1, 0] rfl (ih4 (i + 1) (acc ||| (1 <<< i)) (by omega) (by omega) (by rw [hacc, bitsOf]; simp [liB, c11, c25, c34]))
  exact g_lv _ [2, 3, 1, 0] rfl (lp4 _ 0 0 (Nat.lt_succ_self _) (Nat.zero_le _) rfl)
set_option maxHeartbeats 4000000 in
set_option maxRecDepth 100000 in
theorem c_X6_standing (l : Launch) (E : EV) (a : Nat → Nat) (M : MV) (C : FC) (hC : SO C) (hO : RB C (mO M)) : KI l yX6_standing wsX6_standing (rmN 0) E (σ := Unit) [.ref (a 0)] (mw E a M) (fun _ => True) (fun _ => (nI (stM C))) (fun _ => mw E a M) 0 0 := by
  refine KI.of (cc := cX6_standing) (maxL := 1) (ty := .int) (hnar := fun _ _ => rfl) rfl rfl rfl (fun x hX hin hret hnL => ?_)
  replace hX : CX x l cX6_standing RX6 wsX6_standing E (rmN 0) := hX
  show GG x 0 0 (mw E a M) 0 [(0, .ref (a 0))] []
  have inRX6 : ∀ w ∈ wsX60, w ∈ wsX6_standing := by decide +kernel
  have fl31 : Cond.fieldLink RX6 31 "LieForceModel" "now" "[I" ∈ wsX6_standing := by decide +kernel
  obtain ⟨⟨h9, h64, h512, hT, hI⟩, hK⟩ := id hC
  refine g_iconst hX (nI 1) dX6_standing_0 rfl ?_
  refine g_aload_n hX dX6_standing_1 0 rfl ?_
  refine g_get hX (v := .ref (a 8)) 0 inRX6 rfl rfl 14 rfl fl31 rfl rfl dX6_standing_2 ?_
  refine g_iconst hX (nI 2) dX6_standing_5 rfl ?_
  refine g_iald hX (nI (cN C)) 8 0 rfl rfl (vp_in_nI (by omega) (by omega)) ((ald_n (g := fun zz => (mO M) zz) (i := 2) (by omega)).trans (RB_N hO)) dX6_standing_6 ?_
  refine g_ishl hX (nI (1 <<< (cN C))) dX6_standing_7 (sh_l _ (by omega)) ?_
  refine g_iconst hX (nI 1) dX6_standing_8 rfl ?_
  refine g_isub hX (nI ((1 <<< (cN C)) - 1)) dX6_standing_9 (pk_sub (by exact one_shl)) ?_
  refine g_aload_n hX dX6_standing_10 0 rfl ?_
  refine g_get hX (v := .ref (a 8)) 0 inRX6 rfl rfl 14 rfl fl31 rfl rfl dX6_standing_11 ?_
  refine g_iconst hX (nI 3) dX6_standing_14 rfl ?_
  refine g_iald hX (nI (cG C)) 8 0 rfl rfl (vp_in_nI (by omega) (by omega)) ((ald_n (g := fun zz => (mO M) zz) (i := 3) (by omega)).trans (RB_G hO)) dX6_standing_15 ?_
  refine g_iconst hX ((-1)) dX6_standing_16 rfl ?_
  refine g_ixor hX (nI (cG C) ^^^ (-1)) dX6_standing_17 rfl ?_
  refine g_iand hX (nI (andn ((1 <<< (cN C)) - 1) (cG C))) dX6_standing_18 (and_not (by exact Nat.lt_of_lt_of_le (full_lt h9) (by decide))) ?_
  exact g_eq rfl rfl (congrArg (fun z => [Value.int z]) (congrArg nI (by rfl))) (hret () _ _ trivial dX6_standing_19)
set_option maxHeartbeats 4000000 in
set_option maxRecDepth 100000 in
theorem c_X6_appoints (l : Launch) (E : EV) (a : Nat → Nat) (M : MV) (C : FC) (hC : SO C) (hO : RB C (mO M)) : KV l yX6_appoints wsX6_appoints (rmN 4) E (σ := Nat → Int32) [.ref (a 0)] (mw E a M) (fun u => RB C u ∧ ∀ s, s < cN C → u (40 + s) = apV C (mO M) s) (fun u => mw E a (mkMV (mT M) (mS M) (mA M) (mW M) (mK M) (mP M) (mE M) (mN M) (mX M) (mL M) (mI M) (mD M) (mR M) (mM M) u (mF M) (mU M) (mQ M) (mZ M) (mG M) (mH M))) 0 0 := by
  refine KV.of (cc := cX6_appoints) (maxL := 4) rfl rfl rfl (fun x hX hin hret hnL => ?_)
  replace hX : CX x l cX6_appoints RX6 wsX6_appoints E (rmN 4) := hX
  show GG x 0 0 (mw E a M) 0 [(0, .ref (a 0))] []
  have inRX6 : ∀ w ∈ wsX60, w ∈ wsX6_appoints := by decide +kernel
  have fl31 : Cond.fieldLink RX6 31 "LieForceModel" "now" "[I" ∈ wsX6_appoints := by decide +kernel
  obtain ⟨⟨h9, h64, h512, hT, hI⟩, hK⟩ := id hC
  have hli := lieM_lt h9 (cF C)
  refine g_aload_n hX dX6_appoints_0 0 rfl ?_
  refine g_aload_n hX dX6_appoints_1 0 rfl ?_
  refine g_get hX (v := .ref (a 8)) 0 inRX6 rfl rfl 14 rfl fl31 rfl rfl dX6_appoints_2 ?_
  refine g_iconst hX (nI 0) dX6_appoints_5 rfl ?_
  refine g_iald hX (nI (cF C)) 8 0 rfl rfl (vp_in_nI (by omega) (by omega)) ((ald_n (g := fun zz => (mO M) zz) (i := 0) (by omega)).trans (RB_F hO)) dX6_appoints_6 ?_
  have hc7 : CUT (mw E a M) (mw E a M) (([] : va_W)) [0, 1, 2, 3, 4, 5, 6, 7, 8, 9, 10, 11, 12] [] := ⟨rfl, rfl, rfl, rfl, rfl⟩
  refine g_VI hX hc7 [.int (nI (cF C))] [] (c_X6_policeIn l E a M C (cF C) (by first | assumption | omega) (by first | assumption | omega) (by omega)) gX6_appoints_X6_policeIn calX6_policeIn rfl rfl rfl rfl 0 rfl rfl rfl rfl dX6_appoints_7 rfl ⟨Nat.zero_le _, Nat.zero_le _⟩ (fun _ => mw E a M) [0, 1, 2, 3, 4, 5, 6, 7, 8, 9, 10, 11, 12] rfl (fun _ => rfl) (fun _ hu7 => ?_)
  refine g_istore_n hX (j := 1) [(1, .int (nI (lieM C (cF C)))), (0, .ref (a 0))] dX6_appoints_10 rfl (by rw [hnL]; rfl) rfl ?_
  refine g_iconst hX (nI 0) dX6_appoints_11 rfl ?_
  refine g_istore_n hX (j := 2) [(2, .int (nI 0)), (1, .int (nI (lieM C (cF C)))), (0, .ref (a 0))] dX6_appoints_12 rfl (by rw [hnL]; rfl) rfl ?_
  have lp13 : ∀ (fuel : Nat) (i : Nat) (z : Nat → Int32), cN C - i < fuel → (i ≤ cN C) → (RB C z) → (∀ s, s < i → z (40 + s) = apV C (mO M) s) → (∀ s, i ≤ s → z (40 + s) = mO M (40 + s)) → GG x 0 0 (mw E a (mkMV (mT M) (mS M) (mA M) (mW M) (mK M) (mP M) (mE M) (mN M) (mX M) (mL M) (mI M) (mD M) (mR M) (mM M) z (mF M) (mU M) (mQ M) (mZ M) (mG M) (mH M))) 13 [(0, .ref (a 0)), (1, .int (nI (lieM C (cF C)))), (2, .int (nI i))] [] := by
    intro fuel
    induction fuel with
    | zero => intro i z hm; exact absurd hm (Nat.not_lt_zero _)
    | succ fuel ih13 =>
      intro i z hm13 hi hz hb ha
      have hai := ha i (Nat.le_refl _)
      refine g_iload_n hX dX6_appoints_13 2 rfl ?_
      refine g_aload_n hX dX6_appoints_14 0 rfl ?_
      refine g_get hX (v := .ref (a 8)) 0 inRX6 (atModel_0 _ _ _ _ _ _ _ _ _ _ _ _ _ _ _ _ _ _ _ _ _ _ _) rfl 14 rfl fl31 rfl rfl dX6_appoints_15 ?_
      refine g_iconst hX (nI 2) dX6_appoints_18 rfl ?_
      refine g_iald hX (nI (cN C)) 8 0 (atModel_8 _ _ _ _ _ _ _ _ _ _ _ _ _ _ _ _ _ _ _ _ _ _ _) rfl (vp_in_nI (by omega) (by omega)) ((ald_n (g := fun zz => (z) zz) (i := 2) (by omega)).trans (RB_N hz)) dX6_appoints_19 ?_
      refine g_icmp_ge hX 69 dX6_appoints_20 (by decide) (fun c20 => ?_) (fun c20 => ?_)
      · replace c20 := (nI_leI (by omega) (by omega)).mp c20
        exact g_eq rfl rfl rfl (hret z _ _ (⟨hz, fun s hs => hb s (by omega)⟩) dX6_appoints_69)
      · replace c20 := mt (nI_leI (by omega) (by omega)).mpr c20
        refine g_aload_n hX dX6_appoints_23 0 rfl ?_
        refine g_get hX (v := .ref (a 8)) 0 inRX6 (atModel_0 _ _ _ _ _ _ _ _ _ _ _ _ _ _ _ _ _ _ _ _ _ _ _) rfl 14 rfl fl31 rfl rfl dX6_appoints_24 ?_
        refine g_bipush hX (nI 40) dX6_appoints_27 rfl ?_
        refine g_iload_n hX dX6_appoints_29 2 rfl ?_
        refine g_iadd hX (nI (40 + i)) dX6_appoints_30 (nI_add _ _) ?_
        refine g_iald hX (z (40 + i)) 8 0 (atModel_8 _ _ _ _ _ _ _ _ _ _ _ _ _ _ _ _ _ _ _ _ _ _ _) rfl (vp_in_nI (by omega) (by omega)) (ald_n (g := fun zz => (z) zz) (i := 40 + i) (by omega)) dX6_appoints_31 ?_
        refine g_istore_n hX (j := 3) [(3, .int (z (40 + i))), (0, .ref (a 0)), (1, .int (nI (lieM C (cF C)))), (2, .int (nI i))] dX6_appoints_32 rfl (by rw [hnL]; rfl) rfl ?_
        refine g_aload_n hX dX6_appoints_33 1 rfl ?_
        refine g_get hX (v := .ref (a 8)) 0 inRX6 (atModel_0 _ _ _ _ _ _ _ _ _ _ _ _ _ _ _ _ _ _ _ _ _ _ _) rfl 14 rfl fl31 rfl rfl dX6_appoints_34 ?_
        refine g_bipush hX (nI 40) dX6_appoints_37 rfl ?_
        refine g_iload_n hX dX6_appoints_39 3 rfl ?_
        refine g_iadd hX (nI (40 + i)) dX6_appoints_40 (nI_add _ _) ?_
        refine g_iload_n hX dX6_appoints_41 2 rfl ?_
        refine g_iload_n hX dX6_appoints_42 3 rfl ?_
        have hc43 : CUT (mw E a (mkMV (mT M) (mS M) (mA M) (mW M) (mK M) (mP M) (mE M) (mN M) (mX M) (mL M) (mI M) (mD M) (mR M) (mM M) z (mF M) (mU M) (mQ M) (mZ M) (mG M) (mH M))) (([] : va_W)) (mw E a (mkMV (mT M) (mS M) (mA M) (mW M) (mK M) (mP M) (mE M) (mN M) (mX M) (mL M) (mI M) (mD M) (mR M) (mM M) z (mF M) (mU M) (mQ M) (mZ M) (mG M) (mH M))) [] [0, 1, 2, 3, 4, 5, 6, 7, 8, 9, 10, 11, 12] := ⟨rfl, rfl, rfl, rfl, rfl⟩
        refine g_TI hX hc43 [.int (nI (lieM C (cF C))), .int (nI i)] [.int (nI (40 + i)), .ref (a 8)] (c_X6_has l E (lieM C (cF C)) i (by first | assumption | omega) (by first | assumption | omega)) gX6_appoints_X6_has calX6_has rfl rfl rfl rfl dX6_appoints_43 rfl ⟨Nat.zero_le _, Nat.zero_le _⟩ (fun _ => mw E a (mkMV (mT M) (mS M) (mA M) (mW M) (mK M) (mP M) (mE M) (mN M) (mX M) (mL M) (mI M) (mD M) (mR M) (mM M) z (mF M) (mU M) (mQ M) (mZ M) (mG M) (mH M))) [0, 1, 2, 3, 4, 5, 6, 7, 8, 9, 10, 11, 12] rfl (fun _ => rfl) (fun _ hu43 => ?_)
        refine g_if_ne hX 53 dX6_appoints_46 (by decide) (fun c46 => ?_) (fun c46 => ?_)
        · replace c46 := mt bI_0.mpr c46
          replace c46 := bNf c46
          refine g_iload_n hX dX6_appoints_53 0 rfl ?_
          refine g_if_ge hX 61 dX6_appoints_54 (by decide) (fun c54 => ?_) (fun c54 => ?_)
          · skip
            refine g_iload_n hX dX6_appoints_61 0 rfl ?_
            refine g_iast hX (va_up (z) (40 + i) (z (40 + i))) (mw E a (mkMV (mT M) (mS M) (mA M) (mW M) (mK M) (mP M) (mE M) (mN M) (mX M) (mL M) (mI M) (mD M) (mR M) (mM M) (va_up (z) (40 + i) (z (40 + i))) (mF M) (mU M) (mQ M) (mZ M) (mG M) (mH M))) 8 0 (atModel_8 _ _ _ _ _ _ _ _ _ _ _ _ _ _ _ _ _ _ _ _ _ _ _) rfl (vp_in_nI (by omega) (by omega)) (ast_r (by omega)) dX6_appoints_62 (stModel_8 _ _ _ _ _ _ _ _ _ _ _ _ _ _ _ _ _ _ _ _ _ _ _ _) ?_
            refine g_iinc hX (j := 2) (nI (i + 1)) [(2, .int (nI (i + 1))), (3, .int (z (40 + i))), (0, .ref (a 0)), (1, .int (nI (lieM C (cF C))))] dX6_appoints_63 3 rfl (iinc_n _ _) (by rw [hnL]; rfl) rfl ?_
            refine g_goto hX 13 dX6_appoints_66 (by decide) ?_
            exact g_lv _ [2, 3, 0] rfl (ih13 (i + 1) (va_up (z) (40 + i) (z (40 + i))) (by omega) (by omega) (RB_up h9 hz (by omega)) (step_b hb (by first | exact ap_f (by omega) c46 | exact ap_0 (by omega) c46 hai c54 | exact ap_v (by omega) c46 hai c54)) (step_a ha))
          · skip
            refine g_iconst hX (nI 0) dX6_appoints_57 rfl ?_
            refine g_goto hX 62 dX6_appoints_58 (by decide) ?_
            refine g_iast hX (va_up (z) (40 + i) (nI 0)) (mw E a (mkMV (mT M) (mS M) (mA M) (mW M) (mK M) (mP M) (mE M) (mN M) (mX M) (mL M) (mI M) (mD M) (mR M) (mM M) (va_up (z) (40 + i) (nI 0)) (mF M) (mU M) (mQ M) (mZ M) (mG M) (mH M))) 8 0 (atModel_8 _ _ _ _ _ _ _ _ _ _ _ _ _ _ _ _ _ _ _ _ _ _ _) rfl (vp_in_nI (by omega) (by omega)) (ast_r (by omega)) dX6_appoints_62 (stModel_8 _ _ _ _ _ _ _ _ _ _ _ _ _ _ _ _ _ _ _ _ _ _ _ _) ?_
            refine g_iinc hX (j := 2) (nI (i + 1)) [(2, .int (nI (i + 1))), (3, .int (z (40 + i))), (0, .ref (a 0)), (1, .int (nI (lieM C (cF C))))] dX6_appoints_63 3 rfl (iinc_n _ _) (by rw [hnL]; rfl) rfl ?_
            refine g_goto hX 13 dX6_appoints_66 (by decide) ?_
            exact g_lv _ [2, 3, 0] rfl (ih13 (i + 1) (va_up (z) (40 + i) (nI 0)) (by omega) (by omega) (RB_up h9 hz (by omega)) (step_b hb (by first | exact ap_f (by omega) c46 | exact ap_0 (by omega) c46 hai c54 | exact ap_v (by omega) c46 hai c54)) (step_a ha))
        · replace c46 := bI_0.mp c46
          refine g_iconst hX ((-1)) dX6_appoints_49 rfl ?_
          refine g_goto hX 62 dX6_appoints_50 (by decide) ?_
          refine g_iast hX (va_up (z) (40 + i) (-1)) (mw E a (mkMV (mT M) (mS M) (mA M) (mW M) (mK M) (mP M) (mE M) (mN M) (mX M) (mL M) (mI M) (mD M) (mR M) (mM M) (va_up (z) (40 + i) (-1)) (mF M) (mU M) (mQ M) (mZ M) (mG M) (mH M))) 8 0 (atModel_8 _ _ _ _ _ _ _ _ _ _ _ _ _ _ _ _ _ _ _ _ _ _ _) rfl (vp_in_nI (by omega) (by omega)) (ast_r (by omega)) dX6_appoints_62 (stModel_8 _ _ _ _ _ _ _ _ _ _ _ _ _ _ _ _ _ _ _ _ _ _ _ _) ?_
          refine g_iinc hX (j := 2) (nI (i + 1)) [(2, .int (nI (i + 1))), (3, .int (z (40 + i))), (0, .ref (a 0)), (1, .int (nI (lieM C (cF C))))] dX6_appoints_63 3 rfl (iinc_n _ _) (by rw [hnL]; rfl) rfl ?_
          refine g_goto hX 13 dX6_appoints_66 (by decide) ?_
          exact g_lv _ [2, 3, 0] rfl (ih13 (i + 1) (va_up (z) (40 + i) (-1)) (by omega) (by omega) (RB_up h9 hz (by omega)) (step_b hb (by first | exact ap_f (by omega) c46 | exact ap_0 (by omega) c46 hai c54 | exact ap_v (by omega) c46 hai c54)) (step_a ha))
  exact g_lv _ [2, 1, 0] rfl (lp13 _ 0 (mO M) (Nat.lt_succ_self _) (Nat.zero_le _) hO (fun s hs => absurd hs (Nat.not_lt_zero _)) (fun s _ => rfl))
set_option maxHeartbeats 4000000 in
set_option maxRecDepth 100000 in
theorem c_X6_doClash (l : Launch) (E : EV) (a : Nat → Nat) (M : MV) (C : FC) (s : Nat) (t : Nat) (hC : SO C) (hO : RB C (mO M)) (hs : s < cN C) (ht : t < cN C) : KI l yX6_doClash wsX6_doClash (rmN 3) E (σ := Unit) [.ref (a 0), .int (nI s), .int (nI t)] (mw E a M) (fun _ => True) (fun _ => (bI (clB C s t))) (fun _ => mw E a M) 0 0 := by
  refine KI.of (cc := cX6_doClash) (maxL := 4) (ty := .boolean) (hnar := fun _ _ => nar_b _) rfl rfl rfl (fun x hX hin hret hnL => ?_)
  replace hX : CX x l cX6_doClash RX6 wsX6_doClash E (rmN 3) := hX
  show GG x 0 0 (mw E a M) 0 [(0, .ref (a 0)), (1, .int (nI s)), (2, .int (nI t))] []
  obtain ⟨⟨h9, h64, h512, hT, hI⟩, hK⟩ := id hC
  refine g_iconst hX (nI 0) dX6_doClash_0 rfl ?_
  refine g_istore_n hX (j := 3) [(3, .int (nI 0)), (0, .ref (a 0)), (1, .int (nI s)), (2, .int (nI t))] dX6_doClash_1 rfl (by rw [hnL]; rfl) rfl ?_
  have lp2 : ∀ (fuel : Nat) (i : Nat), 64 - i < fuel → (i ≤ 64) → (∀ w, w < i → ((cW C s).testBit w && (cW C t).testBit w) = false) → GG x 0 0 (mw E a M) 2 [(0, .ref (a 0)), (1, .int (nI s)), (2, .int (nI t)), (3, .int (nI i))] [] := by
    intro fuel
    induction fuel with
    | zero => intro i hm; exact absurd hm (Nat.not_lt_zero _)
    | succ fuel ih2 =>
      intro i hm2 hi he
      refine g_iload_n hX dX6_doClash_2 3 rfl ?_
      refine g_bipush hX (nI 64) dX6_doClash_3 rfl ?_
      refine g_icmp_ge hX 34 dX6_doClash_5 (by decide) (fun c5 => ?_) (fun c5 => ?_)
      · replace c5 := (nI_leI (by omega) (by omega)).mp c5
        refine g_iconst hX (nI 1) dX6_doClash_34 rfl ?_
        exact g_eq rfl rfl (congrArg (fun z => [Value.int z]) (bret_t (by first | exact cl_some c14 c23 | exact cl_none (hI s hs).2 (fun w hw => he w (by omega))))) (hret () _ _ trivial dX6_doClash_35)
      · replace c5 := mt (nI_leI (by omega) (by omega)).mpr c5
        refine g_aload_n hX dX6_doClash_8 0 rfl ?_
        refine g_iload_n hX dX6_doClash_9 1 rfl ?_
        refine g_iload_n hX dX6_doClash_10 3 rfl ?_
        have hc11 : CUT (mw E a M) (mw E a M) (([] : va_W)) [0, 1, 2, 3, 4, 5, 6, 7, 8, 9, 10, 11, 12] [] := ⟨rfl, rfl, rfl, rfl, rfl⟩
        refine g_VI hX hc11 [.int (nI s), .int (nI i)] [] (c_X6_isSo l E a M C s i (by first | assumption | omega) (by first | assumption | omega) (by omega) (by omega)) gX6_doClash_X6_isSo calX6_isSo rfl rfl rfl rfl 0 rfl rfl rfl rfl dX6_doClash_11 rfl ⟨Nat.zero_le _, Nat.zero_le _⟩ (fun _ => mw E a M) [0, 1, 2, 3, 4, 5, 6, 7, 8, 9, 10, 11, 12] rfl (fun _ => rfl) (fun _ hu11 => ?_)
        refine g_if_eq hX 28 dX6_doClash_14 (by decide) (fun c14 => ?_) (fun c14 => ?_)
        · replace c14 := bI_0.mp c14
          refine g_iinc hX (j := 3) (nI (i + 1)) [(3, .int (nI (i + 1))), (0, .ref (a 0)), (1, .int (nI s)), (2, .int (nI t))] dX6_doClash_28 3 rfl (iinc_n _ _) (by rw [hnL]; rfl) rfl ?_
          refine g_goto hX 2 dX6_doClash_31 (by decide) ?_
          exact g_lv _ [1, 2, 3, 0] rfl (ih2 (i + 1) (by omega) (by omega) (fun w hw => (Nat.lt_or_ge w i).elim (fun q => he w q) (fun q => by rw [show w = i by omega]; simp [c5, c14])))
        · replace c14 := mt bI_0.mpr c14
          replace c14 := bNf c14
          refine g_aload_n hX dX6_doClash_17 0 rfl ?_
          refine g_iload_n hX dX6_doClash_18 2 rfl ?_
          refine g_iload_n hX dX6_doClash_19 3 rfl ?_
          have hc20 : CUT (mw E a M) (mw E a M) (([] : va_W)) [0, 1, 2, 3, 4, 5, 6, 7, 8, 9, 10, 11, 12] [] := ⟨rfl, rfl, rfl, rfl, rfl⟩
          refine g_VI hX hc20 [.int (nI t), .int (nI i)] [] (c_X6_isSo l E a M C t i (by first | assumption | omega) (by first | assumption | omega) ht (by omega)) gX6_doClash_X6_isSo calX6_isSo rfl rfl rfl rfl 0 rfl rfl rfl rfl dX6_doClash_20 rfl ⟨Nat.zero_le _, Nat.zero_le _⟩ (fun _ => mw E a M) [0, 1, 2, 3, 4, 5, 6, 7, 8, 9, 10, 11, 12] rfl (fun _ => rfl) (fun _ hu20 => ?_)
          refine g_if_eq hX 28 dX6_doClash_23 (by decide) (fun c23 => ?_) (fun c23 => ?_)
          · replace c23 := bI_0.mp c23
            refine g_iinc hX (j := 3) (nI (i + 1)) [(3, .int (nI (i + 1))), (0, .ref (a 0)), (1, .int (nI s)), (2, .int (nI t))] dX6_doClash_28 3 rfl (iinc_n _ _) (by rw [hnL]; rfl) rfl ?_
            refine g_goto hX 2 dX6_doClash_31 (by decide) ?_
            exact g_lv _ [1, 2, 3, 0] rfl (ih2 (i + 1) (by omega) (by omega) (fun w hw => (Nat.lt_or_ge w i).elim (fun q => he w q) (fun q => by rw [show w = i by omega]; simp [c5, c14, c23])))
          · replace c23 := mt bI_0.mpr c23
            replace c23 := bNf c23
            refine g_iconst hX (nI 0) dX6_doClash_26 rfl ?_
            exact g_eq rfl rfl (congrArg (fun z => [Value.int z]) (bret_f (by first | exact cl_some c14 c23 | exact cl_none (hI s hs).2 (fun w hw => he w (by omega))))) (hret () _ _ trivial dX6_doClash_27)
  exact g_lv _ [1, 2, 3, 0] rfl (lp2 _ 0 (Nat.lt_succ_self _) (Nat.zero_le _) (fun w hw => absurd hw (Nat.not_lt_zero _)))
set_option maxHeartbeats 4000000 in
set_option maxRecDepth 100000 in
theorem c_X6_police (l : Launch) (E : EV) (a : Nat → Nat) (M : MV) (C : FC) (hC : SO C) (hO : RW C (mO M)) (hV : VB C) : KI l yX6_police wsX6_police (rmN 0) E (σ := Unit) [.ref (a 0)] (mw E a M) (fun _ => True) (fun _ => (nI (lieM C (cF C)))) (fun _ => mw E a M) 0 0 := by
  refine KI.of (cc := cX6_police) (maxL := 3) (ty := .int) (hnar := fun _ _ => rfl) rfl rfl rfl (fun x hX hin hret hnL => ?_)
  replace hX : CX x l cX6_police RX6 wsX6_police E (rmN 0) := hX
  show GG x 0 0 (mw E a M) 0 [(0, .ref (a 0))] []
  have inRX6 : ∀ w ∈ wsX60, w ∈ wsX6_police := by decide +kernel
  have fl31 : Cond.fieldLink RX6 31 "LieForceModel" "now" "[I" ∈ wsX6_police := by decide +kernel
  obtain ⟨⟨h9, h64, h512, hT, hI⟩, hK⟩ := id hC
  refine g_iconst hX (nI 0) dX6_police_0 rfl ?_
  refine g_istore_n hX (j := 1) [(1, .int (nI 0)), (0, .ref (a 0))] dX6_police_1 rfl (by rw [hnL]; rfl) rfl ?_
  refine g_iconst hX (nI 0) dX6_police_2 rfl ?_
  refine g_istore_n hX (j := 2) [(2, .int (nI 0)), (1, .int (nI 0)), (0, .ref (a 0))] dX6_police_3 rfl (by rw [hnL]; rfl) rfl ?_
  have lp4 : ∀ (fuel : Nat) (i : Nat) (acc : Nat), cN C - i < fuel → (i ≤ cN C) → (acc = bitsOf (liB C (cF C)) i) → GG x 0 0 (mw E a M) 4 [(0, .ref (a 0)), (1, .int (nI acc)), (2, .int (nI i))] [] := by
    intro fuel
    induction fuel with
    | zero => intro i acc hm; exact absurd hm (Nat.not_lt_zero _)
    | succ fuel ih4 =>
      intro i acc hm4 hi hacc
      refine g_iload_n hX dX6_police_4 2 rfl ?_
      refine g_aload_n hX dX6_police_5 0 rfl ?_
      refine g_get hX (v := .ref (a 8)) 0 inRX6 rfl rfl 14 rfl fl31 rfl rfl dX6_police_6 ?_
      refine g_iconst hX (nI 2) dX6_police_9 rfl ?_
      refine g_iald hX (nI (cN C)) 8 0 rfl rfl (vp_in_nI (by omega) (by omega)) ((ald_n (g := fun zz => (mO M) zz) (i := 2) (by omega)).trans (RB_N hO.1)) dX6_police_10 ?_
      refine g_icmp_ge hX 42 dX6_police_11 (by decide) (fun c11 => ?_) (fun c11 => ?_)
      · replace c11 := (nI_leI (by omega) (by omega)).mp c11
        refine g_iload_n hX dX6_police_42 1 rfl ?_
        exact g_eq rfl rfl (congrArg (fun z => [Value.int z]) (congrArg nI (by rw [hacc, show i = cN C by omega]; rfl))) (hret () _ _ trivial dX6_police_43)
      · replace c11 := mt (nI_leI (by omega) (by omega)).mpr c11
        refine g_iload_n hX dX6_police_14 1 rfl ?_
        refine g_aload_n hX dX6_police_15 0 rfl ?_
        refine g_get hX (v := .ref (a 8)) 0 inRX6 rfl rfl 14 rfl fl31 rfl rfl dX6_police_16 ?_
        refine g_bipush hX (nI 40) dX6_police_19 rfl ?_
        refine g_iload_n hX dX6_police_21 2 rfl ?_
        refine g_iadd hX (nI (40 + i)) dX6_police_22 (nI_add _ _) ?_
        refine g_iald hX (mO M (40 + i)) 8 0 rfl rfl (vp_in_nI (by omega) (by omega)) (ald_n (g := fun zz => (mO M) zz) (i := 40 + i) (by omega)) dX6_police_23 ?_
        refine g_if_ge hX 31 dX6_police_24 (by decide) (fun c24 => ?_) (fun c24 => ?_)
        · replace c24 := (rs_ge0 hO.2 hV (by omega)).mp c24
          refine g_iconst hX (nI 1) dX6_police_31 rfl ?_
          refine g_iload_n hX dX6_police_32 2 rfl ?_
          refine g_ishl hX (nI (1 <<< i)) dX6_police_33 (sh_l _ (by omega)) ?_
          refine g_ior hX (nI (acc ||| (1 <<< i))) dX6_police_34 (fa_or _ _) ?_
          refine g_istore_n hX (j := 1) [(1, .int (nI (acc ||| (1 <<< i)))), (0, .ref (a 0)), (2, .int (nI i))] dX6_police_35 rfl (by rw [hnL]; rfl) rfl ?_
          refine g_iinc hX (j := 2) (nI (i + 1)) [(2, .int (nI (i + 1))), (1, .int (nI (acc ||| (1 <<< i)))), (0, .ref (a 0))] dX6_police_36 2 rfl (iinc_n _ _) (by rw [hnL]; rfl) rfl ?_
          refine g_goto hX 4 dX6_police_39 (by decide) ?_
          exact g_lv _ [2, 1, 0] rfl (ih4 (i + 1) (acc ||| (1 <<< i)) (by omega) (by omega) (by rw [hacc, bitsOf, show liB C (cF C) i = pmB C i from rfl]; simp [c11, c24]))
        · replace c24 := mt (rs_ge0 hO.2 hV (by omega)).mpr c24
          replace c24 := bNt c24
          refine g_iconst hX (nI 0) dX6_police_27 rfl ?_
          refine g_goto hX 34 dX6_police_28 (by decide) ?_
          refine g_ior hX (nI (acc ||| 0)) dX6_police_34 (fa_or _ _) ?_
          refine g_istore_n hX (j := 1) [(1, .int (nI (acc ||| 0))), (0, .ref (a 0)), (2, .int (nI i))] dX6_police_35 rfl (by rw [hnL]; rfl) rfl ?_
          refine g_iinc hX (j := 2) (nI (i + 1)) [(2, .int (nI (i + 1))), (1, .int (nI (acc ||| 0))), (0, .ref (a 0))] dX6_police_36 2 rfl (iinc_n _ _) (by rw [hnL]; rfl) rfl ?_
          refine g_goto hX 4 dX6_police_39 (by decide) ?_
          exact g_lv _ [2, 1, 0] rfl (ih4 (i + 1) (acc ||| 0) (by omega) (by omega) (by rw [hacc, bitsOf, show liB C (cF C) i = pmB C i from rfl]; simp [c11, c24]))
  exact g_lv _ [2, 1, 0] rfl (lp4 _ 0 0 (Nat.lt_succ_self _) (Nat.zero_le _) rfl)
set_option maxHeartbeats 4000000 in
set_option maxRecDepth 100000 in
theorem c_X6_canBeWithdrawn (l : Launch) (E : EV) (a : Nat → Nat) (M : MV) (C : FC) (s : Nat) (hC : SO C) (hO : RW C (mO M)) (hV : VB C) (hTm : cT C = mT M) (hs : s < cN C) : KI l yX6_canBeWithdrawn wsX6_canBeWithdrawn (rmN 1) E (σ := Unit) [.ref (a 0), .int (nI s)] (mw E a M) (fun _ => True) (fun _ => (bI (cwB C s))) (fun _ => mw E a M) 0 0 := by
  refine KI.of (cc := cX6_canBeWithdrawn) (maxL := 2) (ty := .boolean) (hnar := fun _ _ => nar_b _) rfl rfl rfl (fun x hX hin hret hnL => ?_)
  replace hX : CX x l cX6_canBeWithdrawn RX6 wsX6_canBeWithdrawn E (rmN 1) := hX
  show GG x 0 0 (mw E a M) 0 [(0, .ref (a 0)), (1, .int (nI s))] []
  have inRX6 : ∀ w ∈ wsX60, w ∈ wsX6_canBeWithdrawn := by decide +kernel
  have fl105 : Cond.fieldLink RX6 105 "LieForceModel" "term" "I" ∈ wsX6_canBeWithdrawn := by decide +kernel
  have fl31 : Cond.fieldLink RX6 31 "LieForceModel" "now" "[I" ∈ wsX6_canBeWithdrawn := by decide +kernel
  obtain ⟨⟨h9, h64, h512, hT, hI⟩, hK⟩ := id hC
  refine g_aload_n hX dX6_canBeWithdrawn_0 0 rfl ?_
  refine g_get hX (v := .ref (a 8)) 0 inRX6 rfl rfl 14 rfl fl31 rfl rfl dX6_canBeWithdrawn_1 ?_
  refine g_iconst hX (nI 3) dX6_canBeWithdrawn_4 rfl ?_
  refine g_iald hX (nI (cG C)) 8 0 rfl rfl (vp_in_nI (by omega) (by omega)) ((ald_n (g := fun zz => (mO M) zz) (i := 3) (by omega)).trans (RB_G hO.1)) dX6_canBeWithdrawn_5 ?_
  refine g_iload_n hX dX6_canBeWithdrawn_6 1 rfl ?_
  have hc7 : CUT (mw E a M) (([] : va_W)) (mw E a M) [] [0, 1, 2, 3, 4, 5, 6, 7, 8, 9, 10, 11, 12] := ⟨rfl, rfl, rfl, rfl, rfl⟩
  refine g_TI hX hc7 [.int (nI (cG C)), .int (nI s)] [] (c_X6_has l E (cG C) s (by first | assumption | omega) (by first | assumption | omega)) gX6_canBeWithdrawn_X6_has calX6_has rfl rfl rfl rfl dX6_canBeWithdrawn_7 rfl ⟨Nat.zero_le _, Nat.zero_le _⟩ (fun _ => mw E a M) [0, 1, 2, 3, 4, 5, 6, 7, 8, 9, 10, 11, 12] rfl (fun _ => rfl) (fun _ hu7 => ?_)
  refine g_if_ne hX 33 dX6_canBeWithdrawn_10 (by decide) (fun c10 => ?_) (fun c10 => ?_)
  · replace c10 := mt bI_0.mpr c10
    replace c10 := bNf c10
    refine g_iconst hX (nI 0) dX6_canBeWithdrawn_33 rfl ?_
    exact g_eq rfl rfl (congrArg (fun z => [Value.int z]) (bret_f (by simp [cwB, c10]))) (hret () _ _ trivial dX6_canBeWithdrawn_34)
  · replace c10 := bI_0.mp c10
    refine g_aload_n hX dX6_canBeWithdrawn_13 0 rfl ?_
    refine g_get hX (v := .ref (a 8)) 0 inRX6 rfl rfl 14 rfl fl31 rfl rfl dX6_canBeWithdrawn_14 ?_
    refine g_bipush hX (nI 40) dX6_canBeWithdrawn_17 rfl ?_
    refine g_iload_n hX dX6_canBeWithdrawn_19 1 rfl ?_
    refine g_iadd hX (nI (40 + s)) dX6_canBeWithdrawn_20 (nI_add _ _) ?_
    refine g_iald hX (mO M (40 + s)) 8 0 rfl rfl (vp_in_nI (by omega) (by omega)) (ald_n (g := fun zz => (mO M) zz) (i := 40 + s) (by omega)) dX6_canBeWithdrawn_21 ?_
    refine g_aload_n hX dX6_canBeWithdrawn_22 0 rfl ?_
    refine g_get hX (v := .int (nI (mT M))) 0 inRX6 rfl rfl 0 rfl fl105 rfl rfl dX6_canBeWithdrawn_23 ?_
    refine g_icmp_ge hX 33 dX6_canBeWithdrawn_26 (by decide) (fun c26 => ?_) (fun c26 => ?_)
    · replace c26 := (rs_geT hO.2 hV hTm (by omega) hs).mp c26
      refine g_iconst hX (nI 0) dX6_canBeWithdrawn_33 rfl ?_
      exact g_eq rfl rfl (congrArg (fun z => [Value.int z]) (bret_f (by simp [cwB, c10, c26]))) (hret () _ _ trivial dX6_canBeWithdrawn_34)
    · replace c26 := mt (rs_geT hO.2 hV hTm (by omega) hs).mpr c26
      replace c26 := bNt c26
      refine g_iconst hX (nI 1) dX6_canBeWithdrawn_29 rfl ?_
      refine g_goto hX 34 dX6_canBeWithdrawn_30 (by decide) ?_
      exact g_eq rfl rfl (congrArg (fun z => [Value.int z]) (bret_t (by simp [cwB, c10, c26]))) (hret () _ _ trivial dX6_canBeWithdrawn_34)
set_option maxHeartbeats 4000000 in
set_option maxRecDepth 100000 in
theorem c_X6_longServed (l : Launch) (E : EV) (a : Nat → Nat) (M : MV) (C : FC) (hC : SO C) (hS : RW C (mS M)) (hV : VB C) (hTm : cT C = mT M) : KI l yX6_longServed wsX6_longServed (rmN 0) E (σ := Unit) [.ref (a 0)] (mw E a M) (fun _ => True) (fun _ => (nI (cnt (hsB C) (cN C)))) (fun _ => mw E a M) 0 0 := by
  refine KI.of (cc := cX6_longServed) (maxL := 3) (ty := .int) (hnar := fun _ _ => rfl) rfl rfl rfl (fun x hX hin hret hnL => ?_)
  replace hX : CX x l cX6_longServed RX6 wsX6_longServed E (rmN 0) := hX
  show GG x 0 0 (mw E a M) 0 [(0, .ref (a 0))] []
  have inRX6 : ∀ w ∈ wsX60, w ∈ wsX6_longServed := by decide +kernel
  have fl105 : Cond.fieldLink RX6 105 "LieForceModel" "term" "I" ∈ wsX6_longServed := by decide +kernel
  have fl7 : Cond.fieldLink RX6 7 "LieForceModel" "st" "[I" ∈ wsX6_longServed := by decide +kernel
  obtain ⟨⟨h9, h64, h512, hT, hI⟩, hK⟩ := id hC
  refine g_iconst hX (nI 0) dX6_longServed_0 rfl ?_
  refine g_istore_n hX (j := 1) [(1, .int (nI 0)), (0, .ref (a 0))] dX6_longServed_1 rfl (by rw [hnL]; rfl) rfl ?_
  refine g_iconst hX (nI 0) dX6_longServed_2 rfl ?_
  refine g_istore_n hX (j := 2) [(2, .int (nI 0)), (1, .int (nI 0)), (0, .ref (a 0))] dX6_longServed_3 rfl (by rw [hnL]; rfl) rfl ?_
  have lp4 : ∀ (fuel : Nat) (i : Nat) (acc : Nat), cN C - i < fuel → (i ≤ cN C) → (acc = cnt (hsB C) i) → GG x 0 0 (mw E a M) 4 [(0, .ref (a 0)), (1, .int (nI acc)), (2, .int (nI i))] [] := by
    intro fuel
    induction fuel with
    | zero => intro i acc hm; exact absurd hm (Nat.not_lt_zero _)
    | succ fuel ih4 =>
      intro i acc hm4 hi hacc
      refine g_iload_n hX dX6_longServed_4 2 rfl ?_
      refine g_aload_n hX dX6_longServed_5 0 rfl ?_
      refine g_get hX (v := .ref (a 1)) 0 inRX6 rfl rfl 1 rfl fl7 rfl rfl dX6_longServed_6 ?_
      refine g_iconst hX (nI 2) dX6_longServed_9 rfl ?_
      refine g_iald hX (nI (cN C)) 1 0 rfl rfl (vp_in_nI (by omega) (by omega)) ((ald_n (g := fun zz => (mS M) zz) (i := 2) (by omega)).trans (RB_N hS.1)) dX6_longServed_10 ?_
      refine g_icmp_ge hX 44 dX6_longServed_11 (by decide) (fun c11 => ?_) (fun c11 => ?_)
      · replace c11 := (nI_leI (by omega) (by omega)).mp c11
        refine g_iload_n hX dX6_longServed_44 1 rfl ?_
        exact g_eq rfl rfl (congrArg (fun z => [Value.int z]) (congrArg nI (by rw [hacc, show i = cN C by omega]))) (hret () _ _ trivial dX6_longServed_45)
      · replace c11 := mt (nI_leI (by omega) (by omega)).mpr c11
        refine g_iload_n hX dX6_longServed_14 1 rfl ?_
        refine g_aload_n hX dX6_longServed_15 0 rfl ?_
        refine g_get hX (v := .ref (a 1)) 0 inRX6 rfl rfl 1 rfl fl7 rfl rfl dX6_longServed_16 ?_
        refine g_bipush hX (nI 40) dX6_longServed_19 rfl ?_
        refine g_iload_n hX dX6_longServed_21 2 rfl ?_
        refine g_iadd hX (nI (40 + i)) dX6_longServed_22 (nI_add _ _) ?_
        refine g_iald hX (mS M (40 + i)) 1 0 rfl rfl (vp_in_nI (by omega) (by omega)) (ald_n (g := fun zz => (mS M) zz) (i := 40 + i) (by omega)) dX6_longServed_23 ?_
        refine g_aload_n hX dX6_longServed_24 0 rfl ?_
        refine g_get hX (v := .int (nI (mT M))) 0 inRX6 rfl rfl 0 rfl fl105 rfl rfl dX6_longServed_25 ?_
        refine g_icmp_lt hX 35 dX6_longServed_28 (by decide) (fun c28 => ?_) (fun c28 => ?_)
        · replace c28 := (rs_ltT hS.2 hV hTm (by omega) (by omega)).mp c28
          refine g_iconst hX (nI 0) dX6_longServed_35 rfl ?_
          refine g_iadd hX (nI (acc + 0)) dX6_longServed_36 (nI_add _ _) ?_
          refine g_istore_n hX (j := 1) [(1, .int (nI (acc + 0))), (0, .ref (a 0)), (2, .int (nI i))] dX6_longServed_37 rfl (by rw [hnL]; rfl) rfl ?_
          refine g_iinc hX (j := 2) (nI (i + 1)) [(2, .int (nI (i + 1))), (1, .int (nI (acc + 0))), (0, .ref (a 0))] dX6_longServed_38 2 rfl (iinc_n _ _) (by rw [hnL]; rfl) rfl ?_
          refine g_goto hX 4 dX6_longServed_41 (by decide) ?_
          exact g_lv _ [2, 1, 0] rfl (ih4 (i + 1) (acc + 0) (by omega) (by omega) (by rw [hacc, cnt]; simp [c11, c28]))
        · replace c28 := mt (rs_ltT hS.2 hV hTm (by omega) (by omega)).mpr c28
          replace c28 := bNf c28
          refine g_iconst hX (nI 1) dX6_longServed_31 rfl ?_
          refine g_goto hX 36 dX6_longServed_32 (by decide) ?_
          refine g_iadd hX (nI (acc + 1)) dX6_longServed_36 (nI_add _ _) ?_
          refine g_istore_n hX (j := 1) [(1, .int (nI (acc + 1))), (0, .ref (a 0)), (2, .int (nI i))] dX6_longServed_37 rfl (by rw [hnL]; rfl) rfl ?_
          refine g_iinc hX (j := 2) (nI (i + 1)) [(2, .int (nI (i + 1))), (1, .int (nI (acc + 1))), (0, .ref (a 0))] dX6_longServed_38 2 rfl (iinc_n _ _) (by rw [hnL]; rfl) rfl ?_
          refine g_goto hX 4 dX6_longServed_41 (by decide) ?_
          exact g_lv _ [2, 1, 0] rfl (ih4 (i + 1) (acc + 1) (by omega) (by omega) (by rw [hacc, cnt]; simp [c11, c28]))
  exact g_lv _ [2, 1, 0] rfl (lp4 _ 0 0 (Nat.lt_succ_self _) (Nat.zero_le _) rfl)
set_option maxHeartbeats 4000000 in
set_option maxRecDepth 100000 in
theorem c_X6_withdraws (l : Launch) (E : EV) (a : Nat → Nat) (M : MV) (C : FC) (s : Nat) (hC : SO C) (hO : RW C (mO M)) (hs : s < cN C) : KV l yX6_withdraws wsX6_withdraws (rmN 0) E (σ := Nat → Int32) [.ref (a 0), .int (nI s)] (mw E a M) (fun u => RW (toC C s) u) (fun u => mw E a (mkMV (mT M) (mS M) (mA M) (mW M) (mK M) (mP M) (mE M) (mN M) (mX M) (mL M) (mI M) (mD M) (mR M) (mM M) u (mF M) (mU M) (mQ M) (mZ M) (mG M) (mH M))) 0 0 := by
  refine KV.of (cc := cX6_withdraws) (maxL := 2) rfl rfl rfl (fun x hX hin hret hnL => ?_)
  replace hX : CX x l cX6_withdraws RX6 wsX6_withdraws E (rmN 0) := hX
  show GG x 0 0 (mw E a M) 0 [(0, .ref (a 0)), (1, .int (nI s))] []
  have inRX6 : ∀ w ∈ wsX60, w ∈ wsX6_withdraws := by decide +kernel
  have fl31 : Cond.fieldLink RX6 31 "LieForceModel" "now" "[I" ∈ wsX6_withdraws := by decide +kernel
  obtain ⟨⟨h9, h64, h512, hT, hI⟩, hK⟩ := id hC
  refine g_aload_n hX dX6_withdraws_0 0 rfl ?_
  refine g_get hX (v := .ref (a 8)) 0 inRX6 rfl rfl 14 rfl fl31 rfl rfl dX6_withdraws_1 ?_
  refine g_iconst hX (nI 3) dX6_withdraws_4 rfl ?_
  refine g_dup2 hX dX6_withdraws_5 rfl rfl ?_
  refine g_iald hX (nI (cG C)) 8 0 rfl rfl (vp_in_nI (by omega) (by omega)) ((ald_n (g := fun zz => (mO M) zz) (i := 3) (by omega)).trans (RB_G hO.1)) dX6_withdraws_6 ?_
  refine g_iconst hX (nI 1) dX6_withdraws_7 rfl ?_
  refine g_iload_n hX dX6_withdraws_8 1 rfl ?_
  refine g_ishl hX (nI (1 <<< s)) dX6_withdraws_9 (sh_l _ (by omega)) ?_
  refine g_ior hX (nI ((cG C) ||| (1 <<< s))) dX6_withdraws_10 (fa_or _ _) ?_
  refine g_eq (show (mw E a M : va_W) = mw E a (mkMV (mT M) (mS M) (mA M) (mW M) (mK M) (mP M) (mE M) (mN M) (mX M) (mL M) (mI M) (mD M) (mR M) (mM M) (mO M) (mF M) (mU M) (mQ M) (mZ M) (mG M) (mH M)) from rfl) rfl rfl ?_
  refine g_iast hX (va_up (mO M) 3 (nI ((cG C) ||| (1 <<< s)))) (mw E a (mkMV (mT M) (mS M) (mA M) (mW M) (mK M) (mP M) (mE M) (mN M) (mX M) (mL M) (mI M) (mD M) (mR M) (mM M) (va_up (mO M) 3 (nI ((cG C) ||| (1 <<< s)))) (mF M) (mU M) (mQ M) (mZ M) (mG M) (mH M))) 8 0 (atModel_8 _ _ _ _ _ _ _ _ _ _ _ _ _ _ _ _ _ _ _ _ _ _ _) rfl (vp_in_nI (by omega) (by omega)) (ast_r (by omega)) dX6_withdraws_11 (stModel_8 _ _ _ _ _ _ _ _ _ _ _ _ _ _ _ _ _ _ _ _ _ _ _ _) ?_
  refine g_aload_n hX dX6_withdraws_12 0 rfl ?_
  refine g_get hX (v := .ref (a 8)) 0 inRX6 (atModel_0 _ _ _ _ _ _ _ _ _ _ _ _ _ _ _ _ _ _ _ _ _ _ _) rfl 14 rfl fl31 rfl rfl dX6_withdraws_13 ?_
  refine g_bipush hX (nI 40) dX6_withdraws_16 rfl ?_
  refine g_iload_n hX dX6_withdraws_18 1 rfl ?_
  refine g_iadd hX (nI (40 + s)) dX6_withdraws_19 (nI_add _ _) ?_
  refine g_iconst hX ((-1)) dX6_withdraws_20 rfl ?_
  refine g_iast hX (va_up (va_up (mO M) 3 (nI ((cG C) ||| (1 <<< s)))) (40 + s) (-1)) (mw E a (mkMV (mT M) (mS M) (mA M) (mW M) (mK M) (mP M) (mE M) (mN M) (mX M) (mL M) (mI M) (mD M) (mR M) (mM M) (va_up (va_up (mO M) 3 (nI ((cG C) ||| (1 <<< s)))) (40 + s) (-1)) (mF M) (mU M) (mQ M) (mZ M) (mG M) (mH M))) 8 0 (atModel_8 _ _ _ _ _ _ _ _ _ _ _ _ _ _ _ _ _ _ _ _ _ _ _) rfl (vp_in_nI (by omega) (by omega)) (ast_r (by omega)) dX6_withdraws_21 (stModel_8 _ _ _ _ _ _ _ _ _ _ _ _ _ _ _ _ _ _ _ _ _ _ _ _) ?_
  exact g_eq rfl rfl rfl (hret (va_up (va_up (mO M) 3 (nI ((cG C) ||| (1 <<< s)))) (40 + s) (-1)) _ _ (RW_to h9 hO hs rfl) dX6_withdraws_22)
