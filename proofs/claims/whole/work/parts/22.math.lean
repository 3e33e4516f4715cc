/-! numbers and runs: what the law's loop needs -/
theorem i64_toInt (o : Int32) : o.toInt64.toInt = o.toInt := Int32.toInt_toInt64 o
theorem z_in (o : Int32) (k : Nat) (hk : k < 2 ^ 31) : (lN 0 ≤ o.toInt64 ∧ o.toInt64 ≤ lN k) ↔ 0 ≤ o.toInt ∧ o.toInt ≤ k := by
  rw [Int64.le_iff_toInt_le, Int64.le_iff_toInt_le, i64_toInt, lN_toInt (by decide), lN_toInt hk]
  simp
theorem z_split (o : Int32) (k : Nat) (hk : k < 2 ^ 31) : (∃ j, j ≤ k ∧ o = nI j) ∨ ((o < 0 ∨ nI k < o) ∧ ¬ (lN 0 ≤ o.toInt64 ∧ o.toInt64 ≤ lN k) ∧ (o.toInt < 0 ∨ (k : Int) < o.toInt)) := by
  have e1 : o < 0 ↔ o.toInt < 0 := by rw [Int32.lt_iff_toInt_lt, Int32.toInt_zero]
  have e2 : nI k < o ↔ (k : Int) < o.toInt := by rw [Int32.lt_iff_toInt_lt, nI_toInt hk]
  by_cases h : 0 ≤ o.toInt ∧ o.toInt ≤ k
  · left
    refine ⟨o.toInt.toNat, by omega, ?_⟩
    apply Int32.toInt_inj.mp
    rw [nI_toInt (by omega)]
    omega
  · right
    rw [z_in o k hk, e1, e2]
    omega
theorem z_okCM (o : Int32) (x : Int64) : okC o x ↔ okM o x := by
  have a1 : (¬ o < 0 ∧ o ≤ nI 18) ↔ (lN 0 ≤ o.toInt64 ∧ o.toInt64 ≤ lN 18) := by
    rw [z_in o 18 (by decide), Int32.lt_iff_toInt_lt, Int32.toInt_zero, Int32.le_iff_toInt_le, nI_toInt (by decide)]
    omega
  have a2 : (¬ x < 0 ∧ ¬ 4 ≤ x) ↔ (lN 0 ≤ x ∧ x ≤ lN 3) := by
    rw [Int64.lt_iff_toInt_lt, Int64.le_iff_toInt_le, Int64.le_iff_toInt_le, Int64.le_iff_toInt_le, lN_toInt (by decide), lN_toInt (by decide), show (0 : Int64).toInt = 0 from by decide, show (4 : Int64).toInt = 4 from by decide]
    omega
  have a3 : (¬ x < 0 ∧ ¬ 40 < x) ↔ (lN 0 ≤ x ∧ x ≤ lN 40) := by
    rw [Int64.lt_iff_toInt_lt, Int64.lt_iff_toInt_lt, Int64.le_iff_toInt_le, Int64.le_iff_toInt_le, lN_toInt (by decide), lN_toInt (by decide), show (0 : Int64).toInt = 0 from by decide, show (40 : Int64).toInt = 40 from by decide]
    omega
  unfold okC okM
  rw [← a1, ← a2, ← a3]
  constructor
  · rintro ⟨h1, h2, h3, h4⟩
    exact ⟨⟨h1, h2⟩, h3, h4⟩
  · rintro ⟨⟨h1, h2⟩, h3, h4⟩
    exact ⟨h1, h2, h3, h4⟩
theorem nI_inj0 {a b : Nat} (ha : a < 2 ^ 31) (hb : b < 2 ^ 31) (h : nI a = nI b) : a = b := (nI_eq ha hb).mp h
theorem z_okI {o : Int32} {x : Int64} (h : okC o x) : okI (oN o) x ∧ o = nI (oN o) := by
  have hM := (z_okCM o x).mp h
  obtain ⟨h1, h2, h3⟩ := hM
  rw [z_in o 18 (by decide)] at h1
  have e : o = nI (oN o) := by
    apply Int32.toInt_inj.mp
    unfold oN
    rw [nI_toInt (by omega)]
    omega
  have b : oN o ≤ 18 := by unfold oN; omega
  have t : ∀ k : Nat, k < 2 ^ 31 → lN 0 ≤ x ∧ x ≤ lN k → 0 ≤ x.toInt ∧ x.toInt ≤ k := by
    intro k hk ⟨q1, q2⟩
    rw [Int64.le_iff_toInt_le, lN_toInt (by decide)] at q1
    rw [Int64.le_iff_toInt_le, lN_toInt hk] at q2
    exact ⟨by simpa using q1, q2⟩
  refine ⟨⟨b, fun g => ?_, fun g => ?_⟩, e⟩
  · exact t 3 (by decide) (h2 (g.elim (fun z => Or.inl (by rw [e, z])) (fun z => Or.inr (by rw [e, z]))))
  · exact t 40 (by decide) (h3 (g.elim (fun z => Or.inl (by rw [e, z])) (fun z => Or.inr (by rw [e, z]))))
theorem PI_0 {ops : Nat → Int32} {nums : Nat → Int64} : PI 0 ops nums := ⟨by omega, fun i h => absurd h (by omega)⟩
theorem PI_add {n : Nat} {ops : Nat → Int32} {nums : Nat → Int64} {o : Int32} {x : Int64} (h : PI n ops nums) (hn : n < 40) (hok : okC o x) : PI (n + 1) (upd ops n o) (vp_updL nums n x) := by
  refine ⟨by omega, fun i hi => ?_⟩
  by_cases e : i = n
  · subst e
    rw [pk_us, pk_uLs]
    exact z_okI hok
  · rw [pk_un e, pk_uLn e]
    exact h.2 i (by omega)
def agr (m : Nat) (s s2 : Nat → Int64) : Prop := ∀ i, i < m → s i = s2 i
theorem agr_set {m k : Nat} {s s2 : Nat → Int64} {x y : Int64} (h : agr m s s2) (e : x = y) : agr m (vp_updL s k x) (vp_updL s2 k y) := by
  subst e
  intro i hi
  unfold vp_updL
  split
  · rfl
  · exact h i hi
theorem agr_push {m : Nat} {s s2 : Nat → Int64} {x y : Int64} (h : agr m s s2) (e : x = y) : agr (m + 1) (vp_updL s m x) (vp_updL s2 m y) := by
  subst e
  intro i hi
  unfold vp_updL
  split
  · rfl
  · exact h i (by omega)
theorem agr_le {m m' : Nat} {s s2 : Nat → Int64} (h : agr m s s2) (e : m' ≤ m) : agr m' s s2 := fun i hi => h i (by omega)
set_option maxHeartbeats 4000000 in
theorem stp_congr {n vc : Nat} {vals : Nat → Int64} {w : Nat} {key : Int64} {o : Nat} {x : Int64} {pl d : Nat} {st s2 ce pk pv : Nat → Int64} {pr tk : Nat} (ho : o ≤ 18) (h : agr d st s2) :
    (stp n vc vals w key o x pl d st ce pk pv pr tk = none ∧ stp n vc vals w key o x pl d s2 ce pk pv pr tk = none) ∨
    ∃ (pl' d' : Nat) (u v ce' pk' pv' : Nat → Int64) (pr' tk' : Nat), stp n vc vals w key o x pl d st ce pk pv pr tk = some (pl', d', u, ce', pk', pv', pr', tk') ∧ stp n vc vals w key o x pl d s2 ce pk pv pr tk = some (pl', d', v, ce', pk', pv', pr', tk') ∧ agr d' u v := by
  have e1 : 1 ≤ d → s2 (d - 1) = st (d - 1) := fun g => (h _ (by omega)).symm
  have e2 : 2 ≤ d → s2 (d - 2) = st (d - 2) := fun g => (h _ (by omega)).symm
  rcases (show o = 0 ∨ o = 1 ∨ o = 2 ∨ o = 3 ∨ o = 4 ∨ o = 5 ∨ o = 6 ∨ o = 7 ∨ o = 8 ∨ o = 9 ∨ o = 10 ∨ o = 11 ∨ o = 12 ∨ o = 13 ∨ o = 14 ∨ o = 15 ∨ o = 16 ∨ o = 17 ∨ o = 18 by omega) with rfl | rfl | rfl | rfl | rfl | rfl | rfl | rfl | rfl | rfl | rfl | rfl | rfl | rfl | rfl | rfl | rfl | rfl | rfl <;> simp only [stp]
  · by_cases g : d < 12
    · rw [if_pos g, if_pos g]
      exact Or.inr ⟨_, _, _, _, _, _, _, _, _, rfl, rfl, agr_push h rfl⟩
    · rw [if_neg g, if_neg g]
      exact Or.inl ⟨rfl, rfl⟩
  · by_cases g : d < 12
    · rw [if_pos g, if_pos g]
      exact Or.inr ⟨_, _, _, _, _, _, _, _, _, rfl, rfl, agr_push h rfl⟩
    · rw [if_neg g, if_neg g]
      exact Or.inl ⟨rfl, rfl⟩
  · by_cases g : tk < vc ∧ d < 12
    · rw [if_pos g, if_pos g]
      exact Or.inr ⟨_, _, _, _, _, _, _, _, _, rfl, rfl, agr_push h rfl⟩
    · rw [if_neg g, if_neg g]
      exact Or.inl ⟨rfl, rfl⟩
  · by_cases g : d < 12
    · rw [if_pos g, if_pos g]
      exact Or.inr ⟨_, _, _, _, _, _, _, _, _, rfl, rfl, agr_push h rfl⟩
    · rw [if_neg g, if_neg g]
      exact Or.inl ⟨rfl, rfl⟩
  · by_cases g : d < 12
    · rw [if_pos g, if_pos g]
      exact Or.inr ⟨_, _, _, _, _, _, _, _, _, rfl, rfl, agr_push h rfl⟩
    · rw [if_neg g, if_neg g]
      exact Or.inl ⟨rfl, rfl⟩
  · by_cases g : 1 ≤ d
    · rw [e1 g]
      rw [if_pos g, if_pos g]
      exact Or.inr ⟨_, _, _, _, _, _, _, _, _, rfl, rfl, agr_le h (by omega)⟩
    · rw [if_neg g, if_neg g]; exact Or.inl ⟨rfl, rfl⟩
  · by_cases g : 2 ≤ d
    · rw [e1 (by omega), e2 g]
      rw [if_pos g, if_pos g]
      exact Or.inr ⟨_, _, _, _, _, _, _, _, _, rfl, rfl, agr_set (agr_le h (by omega)) rfl⟩
    · rw [if_neg g, if_neg g]; exact Or.inl ⟨rfl, rfl⟩
  · by_cases g : 2 ≤ d
    · rw [e1 (by omega), e2 g]
      rw [if_pos g, if_pos g]
      exact Or.inr ⟨_, _, _, _, _, _, _, _, _, rfl, rfl, agr_set (agr_le h (by omega)) rfl⟩
    · rw [if_neg g, if_neg g]; exact Or.inl ⟨rfl, rfl⟩
  · by_cases g : 2 ≤ d
    · rw [e1 (by omega), e2 g]
      rw [if_pos g, if_pos g]
      exact Or.inr ⟨_, _, _, _, _, _, _, _, _, rfl, rfl, agr_set (agr_le h (by omega)) rfl⟩
    · rw [if_neg g, if_neg g]; exact Or.inl ⟨rfl, rfl⟩
  · by_cases g2 : 2 ≤ d
    · rw [e1 (by omega), e2 g2]
      by_cases g : 2 ≤ d ∧ ¬ st (d - 1) = 0
      · rw [if_pos g, if_pos g]
        exact Or.inr ⟨_, _, _, _, _, _, _, _, _, rfl, rfl, agr_set (agr_le h (by omega)) rfl⟩
      · rw [if_neg g, if_neg g]
        exact Or.inl ⟨rfl, rfl⟩
    · rw [if_neg (fun z => g2 z.1), if_neg (fun z => g2 z.1)]
      exact Or.inl ⟨rfl, rfl⟩
  · by_cases g : 2 ≤ d
    · rw [e1 (by omega), e2 g]
      rw [if_pos g, if_pos g]
      exact Or.inr ⟨_, _, _, _, _, _, _, _, _, rfl, rfl, agr_set (agr_le h (by omega)) rfl⟩
    · rw [if_neg g, if_neg g]; exact Or.inl ⟨rfl, rfl⟩
  · by_cases g : 2 ≤ d
    · rw [e1 (by omega), e2 g]
      rw [if_pos g, if_pos g]
      exact Or.inr ⟨_, _, _, _, _, _, _, _, _, rfl, rfl, agr_set (agr_le h (by omega)) rfl⟩
    · rw [if_neg g, if_neg g]; exact Or.inl ⟨rfl, rfl⟩
  · by_cases g : 1 ≤ d ∧ d < 12
    · rw [e1 g.1, if_pos g, if_pos g]
      exact Or.inr ⟨_, _, _, _, _, _, _, _, _, rfl, rfl, agr_push (agr_set h rfl) rfl⟩
    · rw [if_neg g, if_neg g]
      exact Or.inl ⟨rfl, rfl⟩
  · by_cases g : 1 ≤ d
    · rw [if_pos g, if_pos g]
      exact Or.inr ⟨_, _, _, _, _, _, _, _, _, rfl, rfl, agr_le h (by omega)⟩
    · rw [if_neg g, if_neg g]
      exact Or.inl ⟨rfl, rfl⟩
  · by_cases g : 2 ≤ d
    · rw [e1 (by omega), e2 g]
      rw [if_pos g, if_pos g]
      exact Or.inr ⟨_, _, _, _, _, _, _, _, _, rfl, rfl, agr_set (agr_set h rfl) rfl⟩
    · rw [if_neg g, if_neg g]; exact Or.inl ⟨rfl, rfl⟩
  · exact Or.inr ⟨_, _, _, _, _, _, _, _, _, rfl, rfl, h⟩
  · by_cases g : 1 ≤ d
    · rw [e1 g]
      rw [if_pos g, if_pos g]
      exact Or.inr ⟨_, _, _, _, _, _, _, _, _, rfl, rfl, agr_le h (by omega)⟩
    · rw [if_neg g, if_neg g]; exact Or.inl ⟨rfl, rfl⟩
  · by_cases hw1 : w = 1
    · rw [if_pos hw1, if_pos hw1]
      by_cases g : 1 ≤ d ∧ pr < 4
      · rw [e1 g.1, if_pos g, if_pos g]
        exact Or.inr ⟨_, _, _, _, _, _, _, _, _, rfl, rfl, agr_le h (by omega)⟩
      · rw [if_neg g, if_neg g]
        exact Or.inl ⟨rfl, rfl⟩
    · rw [if_neg hw1, if_neg hw1]
      by_cases g : 2 ≤ d ∧ pr < 4
      · rw [e1 (by omega), e2 g.1, if_pos g, if_pos g]
        exact Or.inr ⟨_, _, _, _, _, _, _, _, _, rfl, rfl, agr_le h (by omega)⟩
      · rw [if_neg g, if_neg g]
        exact Or.inl ⟨rfl, rfl⟩
  · exact Or.inr ⟨_, _, _, _, _, _, _, _, _, rfl, rfl, h⟩
/-- two runs from stacks that agree as far as they are filled tell the same -/
abbrev sameQ (q q2 : Nat × Nat × RS) : Prop := q2.1 = q.1 ∧ q2.2.1 = q.2.1 ∧ q2.2.2.2.1 = q.2.2.2.1 ∧ q2.2.2.2.2.2.1 = q.2.2.2.2.2.1 ∧ q2.2.2.2.2.2.2.1 = q.2.2.2.2.2.2.1 ∧ q2.2.2.2.2.2.2.2.1 = q.2.2.2.2.2.2.2.1 ∧ q2.2.2.2.2.2.2.2.2.1 = q.2.2.2.2.2.2.2.2.1 ∧ q2.2.2.2.2.2.2.2.2.2 = q.2.2.2.2.2.2.2.2.2
theorem runR_congr {n vc : Nat} {vals : Nat → Int64} {w : Nat} {key : Int64} {ops : Nat → Int32} {nums : Nat → Int64} (hPI : PI n ops nums) : ∀ (f pl d : Nat) (st s2 ce pk pv : Nat → Int64) (pr tk : Nat), agr d st s2 → sameQ (runR n vc vals w key ops nums f (pl, d, st, ce, pk, pv, pr, tk)) (runR n vc vals w key ops nums f (pl, d, s2, ce, pk, pv, pr, tk)) := by
  intro f
  induction f with
  | zero =>
    intro pl d st s2 ce pk pv pr tk h
    by_cases g : pl < n
    · rw [runR_long g, runR_long g]
      exact ⟨rfl, rfl, rfl, rfl, rfl, rfl, rfl, rfl⟩
    · rw [runR_end (by omega), runR_end (by omega)]
      exact ⟨rfl, rfl, rfl, rfl, rfl, rfl, rfl, rfl⟩
  | succ f ih =>
    intro pl d st s2 ce pk pv pr tk h
    by_cases g : pl < n
    · rcases stp_congr (n := n) (vc := vc) (vals := vals) (w := w) (key := key) (o := oN (ops pl)) (x := nums pl) (pl := pl + 1) (ce := ce) (pk := pk) (pv := pv) (pr := pr) (tk := tk) (hPI.2 pl g).1.1 h with ⟨h1, h2⟩ | ⟨pl', d', u, v, ce', pk', pv', pr', tk', h1, h2, h3⟩
      · rw [runR_trap g h1, runR_trap g h2]
        exact ⟨rfl, rfl, rfl, rfl, rfl, rfl, rfl, rfl⟩
      · rw [runR_go g h1, runR_go g h2]
        have e := ih pl' d' u v ce' pk' pv' pr' tk' h3
        exact ⟨by rw [e.1], e.2⟩
    · rw [runR_end (by omega), runR_end (by omega)]
      exact ⟨rfl, rfl, rfl, rfl, rfl, rfl, rfl, rfl⟩
theorem runR_inv {n vc : Nat} {vals : Nat → Int64} {w : Nat} {key : Int64} {ops : Nat → Int32} {nums : Nat → Int64} (hPI : PI n ops nums) : ∀ (f pl d : Nat) (st ce pk pv : Nat → Int64) (pr tk : Nat), RI vc w pl d pr tk → ∀ q, runR n vc vals w key ops nums f (pl, d, st, ce, pk, pv, pr, tk) = q → q.1 ≤ f ∧ q.2.1 ≤ 1 ∧ q.2.2.2.1 ≤ 12 ∧ q.2.2.2.2.2.2.2.2.1 ≤ 4 ∧ q.2.2.2.2.2.2.2.2.2 ≤ vc := by
  intro f
  induction f with
  | zero =>
    intro pl d st ce pk pv pr tk h q hq
    obtain ⟨i1, i2, i3, i4, i5⟩ := h
    by_cases g : pl < n
    · rw [runR_long g] at hq
      subst hq
      exact ⟨Nat.le_refl _, Nat.le_refl _, i2, i3, i4⟩
    · rw [runR_end (by omega)] at hq
      subst hq
      exact ⟨Nat.le_refl _, Nat.zero_le _, i2, i3, i4⟩
  | succ f ih =>
    intro pl d st ce pk pv pr tk h q hq
    obtain ⟨i1, i2, i3, i4, i5⟩ := h
    by_cases g : pl < n
    · rcases hs : stp n vc vals w key (oN (ops pl)) (nums pl) (pl + 1) d st ce pk pv pr tk with _ | ⟨pl', d', st', ce', pk', pv', pr', tk'⟩
      · rw [runR_trap g hs] at hq
        subst hq
        exact ⟨Nat.succ_le_succ (Nat.zero_le _), Nat.le_refl _, i2, i3, i4⟩
      · rw [runR_go g hs] at hq
        subst hq
        have e := ih pl' d' st' ce' pk' pv' pr' tk' (stp_inv hPI.1 (hPI.2 pl g).1 ⟨by have := hPI.1; omega, i2, i3, i4, i5⟩ hs) _ rfl
        exact ⟨Nat.succ_le_succ e.1, e.2⟩
    · rw [runR_end (by omega)] at hq
      subst hq
      exact ⟨Nat.zero_le _, Nat.zero_le _, i2, i3, i4⟩
