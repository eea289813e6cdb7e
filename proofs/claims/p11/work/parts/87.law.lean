/-! The law over plain numbers: both run in step over all calls. -/
theorem q_pos {β : Type} {c : Prop} [Decidable c] {a b r : Option β} (hc : c) (h : a = r) : (if c then a else b) = r := by rw [if_pos hc]; exact h
theorem q_neg {β : Type} {c : Prop} [Decidable c] {a b r : Option β} (hc : ¬ c) (h : b = r) : (if c then a else b) = r := by rw [if_neg hc]; exact h
theorem q_ite {β : Type} {c : Prop} [Decidable c] {a b r : Option β} (h : c → a = r) (h2 : ¬ c → b = r) : (if c then a else b) = r := by
  by_cases z : c
  · rw [if_pos z]; exact h z
  · rw [if_neg z]; exact h2 z
theorem q_bind {α β : Type} {a : Option α} {f : α → Option β} {q : α} {r : Option β} (e : a = some q) (h : f q = r) : a.bind f = r := by rw [e]; exact h
theorem q_j {α β : Type} {k : α} {f : α → Option β} {r : Option β} (h : f k = r) : mt_j k f = r := h
theorem j_cmp (o : Nat → Int64) {k : Int32} (v : Int32) (h : k = 0) : lg_cmp (j_o o k v (0 : Int32).toNatClampNeg) v.toInt64 = 0 := by
  subst h
  have e : j_o o 0 v (0 : Int32).toNatClampNeg = v.toInt64 := by rw [j_o0, pk_uLs]
  have g : ¬ v.toInt64 > v.toInt64 := Int64.lt_irrefl
  rw [e, lg_cmp, if_neg g, if_pos rfl]
theorem j_cmp0 (o : Nat → Int64) {k : Int32} (h : k = 0) : lg_cmp (j_o o k 0 (0 : Int32).toNatClampNeg) (0 : Int64) = 0 := by
  have e := j_cmp o 0 h
  rw [show (0 : Int32).toInt64 = (0 : Int64) by decide] at e
  exact e
theorem j_cmp1 (o : Nat → Int64) {k : Int32} (h : k = 0) : lg_cmp (j_o o k 1 (0 : Int32).toNatClampNeg) (1 : Int64) = 0 := by
  have e := j_cmp o 1 h
  rw [show (1 : Int32).toInt64 = (1 : Int64) by decide] at e
  exact e
theorem law_in {x4 y : Int32} {i k L : Nat} (hx : x4 = nI i) (hy : y = nI k) (h : i + k < L) (hL : L ≤ 2560) : ¬ (x4 + y < 0 ∨ L ≤ (x4 + y).toNatClampNeg) := by
  rw [hx, hy, nI_add]; exact t_in h (by omega)

set_option maxRecDepth 4000 in
set_option maxHeartbeats 4000000 in
theorem law_loop {FU L : Nat} (xs : Nat → Int32) (hfu : 800 ≤ FU) (hL : L ≤ 2560) : ∀ (fu : Nat) {s : Int32} {n l lt : Nat} {T : Nat → Nat} {sd pa ts tz tpa rp rk rn rg mt mln mat mw : Int32} {hd th co se tr thd tth tco tse ttr me sk tb rb ro kd th2 fi ot la ke far out tp : Nat → Int32} {o : Nat → Int64} (i : Nat) (x4 : Int32), x4 = nI i → i ≤ L → L < fu + i → j_town s n T hd th co se tr kd th2 fi ot la → l ≤ 597 → j_txt l tb out → lt ≤ 600 → m_L_law_L23 FU L xs (fun (_ : Int32) (_ : Int32) (_ : Int32) (_ : Int32) (_ : Nat → Int32) (_ : Nat → Int32) (_ : Nat → Int32) (_ : Nat → Int32) (_ : Nat → Int32) (_ : Int32) (_ : Int32) (_ : Int32) (_ : Nat → Int32) (_ : Nat → Int32) (_ : Nat → Int32) (_ : Nat → Int32) (_ : Nat → Int32) (_ : Nat → Int32) (_ : Nat → Int32) (_ : Int32) (_ : Nat → Int32) (_ : Int32) (_ : Int32) (_ : Int32) (_ : Int32) (_ : Int32) (_ : Nat → Int32) (_ : Nat → Int32) (_ : Int32) (_ : Int32) (_ : Int32) (_ : Int32) (_ : Int32) (_ : Int32) (_ : Int32) (_ : Int32) (_ : Int32) (_ : Int32) (_ : Nat → Int32) (_ : Nat → Int32) (_ : Nat → Int32) (_ : Nat → Int32) (_ : Nat → Int32) (_ : Nat → Int32) (_ : Nat → Int32) (_ : Nat → Int32) (_ : Nat → Int32) (_ : Nat → Int64) => some (1 : Int32)) fu x4 sd (nI n) pa hd th co se tr ts tz tpa thd tth tco tse ttr me sk (nI l) tb rp rk rn rg (nI lt) rb ro mt (nI (1 + n)) (nI (1 + n / 2)) (nI (1 + n)) s (nI l) (nI lt) mln mat mw kd th2 fi ot la ke far out tp o = some 1 := by
  intro fu
  induction fu with
  | zero => intro s n l lt T sd pa ts tz tpa rp rk rn rg mt mln mat mw hd th co se tr thd tth tco tse ttr me sk tb rb ro kd th2 fi ot la ke far out tp o i x4 hx hi hf hj hl ht hlt; omega
  | succ f ih =>
    intro s n l lt T sd pa ts tz tpa rp rk rn rg mt mln mat mw hd th co se tr thd tth tco tse ttr me sk tb rb ro kd th2 fi ot la ke far out tp o i x4 hx hi hf hj hl ht hlt
    rw [m_L_law_L23]
    by_cases c : i + 5 ≤ L
    · have g0 : ¬ (Int32.ofNat L - (5 : Int32)) < x4 := by
        have e : nI L - nI 5 = nI (L - 5) := pk_sub (by omega)
        have e2 : Int32.ofNat L - (5 : Int32) = nI (L - 5) := e
        rw [e2, hx]; exact nI_nlt (by omega) (by omega)
      have e5 : x4 + (5 : Int32) = nI (i + 5) := by rw [hx]; exact nI_add i 5
      have i0 : ¬ (x4 < 0 ∨ L ≤ x4.toNatClampNeg) := by rw [hx]; exact t_in (by omega) (by omega)
      have i1 := law_in (y := 1) (k := 1) hx rfl (by omega) hL
      have i2 := law_in (y := 2) (k := 2) hx rfl (by omega) hL
      have i3 := law_in (y := 3) (k := 3) hx rfl (by omega) hL
      have i4 := law_in (y := 4) (k := 4) hx rfl (by omega) hL
      refine q_neg g0 (q_pos i0 ?_)
      refine q_ite (fun _ => ?_) (fun _ => q_ite (fun _ => ?_) (fun _ => q_ite (fun _ => ?_) (fun _ => q_ite (fun _ => ?_) (fun _ => q_ite (fun _ => ?_) (fun _ => q_ite (fun _ => ?_) (fun _ => q_ite (fun _ => ?_) (fun _ => q_ite (fun _ => ?_) (fun _ => q_ite (fun _ => ?_) (fun _ => q_ite (fun _ => ?_) (fun _ => q_ite (fun _ => ?_) (fun _ => q_ite (fun _ => ?_) (fun _ => ?_))))))))))))
      · obtain ⟨k, v, sd1, pa1, s1, n1, T1, hd1, th1, co1, se1, tr1, kd1, th21, fi1, ot1, la1, a1, a2, a3⟩ := j_draw (fu := FU) (by omega) hj (xs (x4 + (1 : Int32)).toNatClampNeg) (xs (x4 + (2 : Int32)).toNatClampNeg) sd pa o
        refine q_pos i1 (q_pos i2 (q_bind a1 (q_pos i1 (q_pos i2 (q_bind a2 ?_)))))
        exact ih (i + 5) _ e5 (by omega) (by omega) a3 hl ht hlt
      · obtain ⟨k, v, a1, a2⟩ := j_part hj.1 hj.2.1 hj.2.2 (xs (x4 + (1 : Int32)).toNatClampNeg) (xs (x4 + (2 : Int32)).toNatClampNeg) o
        refine q_pos i1 (q_pos i2 (q_bind a1 (q_pos i1 (q_pos i2 (q_bind a2 ?_)))))
        exact ih (i + 5) _ e5 (by omega) (by omega) hj hl ht hlt
      · refine q_pos i1 (q_pos i2 (q_j ?_))
        by_cases cz : (xs (x4 + (2 : Int32)).toNatClampNeg) = 0
        · obtain ⟨k, T1, th1, th21, a1, a2, a3, a4, a5⟩ := j_leave hj.1 hj.2.1 hj.2.2 (xs (x4 + (1 : Int32)).toNatClampNeg) 0 (Or.inl rfl)
          refine q_pos cz ?_
          refine q_bind a1 (q_pos i1 (q_pos i2 (q_j ?_)))
          refine q_pos cz (q_bind a2 ?_)
          exact ih (i + 5) _ e5 (by omega) (by omega) ⟨a3, a4, a5⟩ hl ht hlt
        · obtain ⟨k, T1, th1, th21, a1, a2, a3, a4, a5⟩ := j_leave hj.1 hj.2.1 hj.2.2 (xs (x4 + (1 : Int32)).toNatClampNeg) 1 (Or.inr rfl)
          refine q_neg cz ?_
          refine q_bind a1 (q_pos i1 (q_pos i2 (q_j ?_)))
          refine q_neg cz (q_bind a2 ?_)
          exact ih (i + 5) _ e5 (by omega) (by omega) ⟨a3, a4, a5⟩ hl ht hlt
      · obtain ⟨k, v, me1, sk1, far1, a1, a2, a3⟩ := j_holds (fu := FU) (by omega) hj.1 hj.2.1 hj.2.2 (xs (x4 + (1 : Int32)).toNatClampNeg) me sk far o
        refine q_pos i1 (q_bind a1 (q_pos i1 (q_bind a2 ?_)))
        exact ih (i + 5) _ e5 (by omega) (by omega) hj hl ht hlt
      · obtain ⟨k, v, me1, far1, a1, a2⟩ := j_way (fu := FU) (by omega) hj.1 hj.2.1 hj.2.2 (xs (x4 + (1 : Int32)).toNatClampNeg) (xs (x4 + (2 : Int32)).toNatClampNeg) me far o
        refine q_pos i1 (q_pos i2 (q_bind a1 (q_pos i1 (q_pos i2 (q_bind a2 ?_)))))
        exact ih (i + 5) _ e5 (by omega) (by omega) hj hl ht hlt
      · obtain ⟨k, v, T1, me1, sk1, far1, th1, th21, a1, a2, a3, a4, a5⟩ := j_shrink (fu := FU) (by omega) hj.1 hj.2.1 hj.2.2 (xs (x4 + (1 : Int32)).toNatClampNeg) me sk far o
        refine q_pos i1 (q_bind a1 (q_pos i1 (q_bind a2 ?_)))
        exact ih (i + 5) _ e5 (by omega) (by omega) ⟨a3, a4, a5⟩ hl ht hlt
      · obtain ⟨k, v, ts1, tz1, tp1, xhd1, xth1, xco1, xse1, xtr1, me1, sk1, kd1, th21, fi1, ot1, la1, ke1, far1, a1, a2, a3⟩ := j_find (fu := FU) (by omega) hj (xs (x4 + (1 : Int32)).toNatClampNeg) (xs (x4 + (2 : Int32)).toNatClampNeg) (xs (x4 + (3 : Int32)).toNatClampNeg) (xs (x4 + (4 : Int32)).toNatClampNeg) ts tz tpa thd tth tco tse ttr me sk ke far o
        refine q_pos i1 (q_pos i2 (q_pos i3 (q_pos i4 (q_bind a1 (q_pos i1 (q_pos i2 (q_pos i3 (q_pos i4 (q_bind a2 ?_)))))))))
        exact ih (i + 5) _ e5 (by omega) (by omega) a3 hl ht hlt
      · obtain ⟨l1, tb1, out1, b1, b2, a1, a2⟩ := j_print (fu := FU) (by omega) hj.1 hj.2.1 hj.2.2 tb out
        refine q_bind a1 (q_bind a2 ?_)
        exact ih (i + 5) _ e5 (by omega) (by omega) hj b1 b2 hlt
      · obtain ⟨k, v, a1, a2⟩ := j_at hl ht (xs (x4 + (1 : Int32)).toNatClampNeg) o
        refine q_pos i1 (q_bind a1 (q_pos i1 (q_bind a2 ?_)))
        exact ih (i + 5) _ e5 (by omega) (by omega) hj hl ht hlt
      · obtain ⟨k, v, lt1, rb1, tp1, b1, a1, a2⟩ := j_sign (fu := FU) (by omega) hlt ((mt_lshl ((xs (x4 + (1 : Int32)).toNatClampNeg).toInt64) (32 : Int32)) ||| (((xs (x4 + (2 : Int32)).toNatClampNeg).toInt64) &&& (4294967295 : Int64))) (xs (x4 + (3 : Int32)).toNatClampNeg) rb tp o
        refine q_pos i1 (q_pos i2 (q_pos i3 (q_bind a1 (q_pos i1 (q_pos i2 (q_pos i3 (q_bind a2 ?_)))))))
        refine q_bind (show m_X7_thrown k = some k from rfl) (q_pos rfl ?_)
        refine q_ite (fun hk => q_pos j_00 (q_pos (j_cmp o v hk) ?_)) (fun hk => ?_)
        · exact ih (i + 5) _ e5 (by omega) (by omega) hj hl ht b1
        · exact ih (i + 5) _ e5 (by omega) (by omega) hj hl ht b1
      · obtain ⟨v, rp1, rk1, rn1, rg1, ro1, a1⟩ := o_ccheck (fu := FU) hfu rn (nI lt) rb ro
        obtain ⟨v2, mat1, mw1, a2⟩ := o_mcheck (fu := FU) hfu hlt tp
        refine q_bind a1 (q_bind a2 ?_)
        exact ih (lt := 0) (i + 5) _ e5 (by omega) (by omega) hj hl ht (Nat.zero_le 600)
      · obtain ⟨k, v, sk1, far1, a1, a2⟩ := j_count (fu := FU) (by omega) hj.1 hj.2.1 hj.2.2 (xs (x4 + (1 : Int32)).toNatClampNeg) sk far o
        refine q_pos i1 (q_bind a1 (q_pos i1 (q_bind a2 ?_)))
        exact ih (i + 5) _ e5 (by omega) (by omega) hj hl ht hlt
      · exact ih (i + 5) _ e5 (by omega) (by omega) hj hl ht hlt
    · have g0 : (Int32.ofNat L - (5 : Int32)) < x4 := by
        rw [hx]
        by_cases c2 : 5 ≤ L
        · have e : nI L - nI 5 = nI (L - 5) := pk_sub c2
          have e2 : Int32.ofNat L - (5 : Int32) = nI (L - 5) := e
          rw [e2]; exact nI_lt (by omega) (by omega)
        · have e : nI L - nI 5 < 0 := pk_sneg (by omega) (by omega)
          exact Int32.lt_of_lt_of_le e (nI_pos' (by omega))
      exact q_pos g0 rfl
theorem pure_law (L : Nat) (xs : Nat → Int32) (hL : L ≤ 2560) : ∃ fu : Nat, m_L_law fu L xs = some 1 := by
  refine ⟨3000, ?_⟩
  obtain ⟨hd, th, co, se, tr, a1, a2⟩ := t_become (s := 0) (n := 0) (fu := 3000) (by omega) (by omega) (fun _ => 0) (fun _ => 0) (fun _ => 0) (fun _ => 0) (fun _ => 0)
  obtain ⟨kd, th2, fi, ot, la, b1, b2⟩ := tm_make (s := 0) (n := 0) (fu := 3000) (by omega) (by omega) (fun _ => 0) (fun _ => 0) (fun _ => 0) (fun _ => 0) (fun _ => 0)
  rw [nI_0] at a2 b2
  have e6 : m_X6_init 3000 = some (0, 0, nI (t_cnt 0 0 62), hd, th, co, se, tr, 0, 0, 0, (fun _ => 0), (fun _ => 0), (fun _ => 0), (fun _ => 0), (fun _ => 0), (fun _ => 0), (fun _ => 0), 0, (fun _ => 0), 0, 0, 0, 0, 0, (fun _ => 0), (fun _ => 0)) := by
    rw [m_X6_init]
    refine q_bind (show m_X5_init = some _ from rfl) (q_bind (show m_X5_init = some _ from rfl) (q_bind (show m_X0_init = some _ from rfl) (q_bind (show m_X1_init = some _ from rfl) (q_bind (show m_X2_init = some _ from rfl) (q_bind a2 ?_)))))
    rfl
  have e7 : m_X7_init 3000 = some (0, nI (1 + 0), nI (1 + 0 / 2), nI (1 + 0), 0, 0, 0, 0, 0, 0, kd, th2, fi, ot, la, (fun _ => 0), (fun _ => 0), (fun _ => 0), (fun _ => 0)) := by
    rw [m_X7_init]
    refine q_bind b2 ?_
    rfl
  rw [m_L_law]
  refine q_bind e6 (q_bind e7 (q_j ?_))
  refine law_loop (n := 0) (l := 0) (lt := 0) (T := t_hd 0 0) (s := 0) xs (by omega) hL 3000 0 0 rfl (by omega) (by omega) ⟨w_drawn 0 (by omega), w_cdrawn a1, w_mdrawn b1⟩ (by omega) (fun i hi => by omega) (by omega)
theorem i_vc : Claimed_1_1 ∧ Claimed_1_2 := i_vc_open pure_law
