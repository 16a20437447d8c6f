/-! ===== who sees whom, how far doubt goes, what cuts it off ===== -/
theorem hb_false_iff {x : Int32} {k : Nat} (hk : k < 32) : (hb x (nI k) = false) = (bt x k = false) := by rw [hb_bt hk]
section SIGHT
variable {ss wl R : List Int32} {n nS nW : Nat} {up : Int32}
theorem bt_or1 {acc : Int32} {q j : Nat} (hq : q < 32) (hj : j < 32) : bt (acc ||| (1 <<< (nI q &&& 31))) j = (bt acc j || decide (q = j)) := by
  rw [b_or, bt_p2 hq hj]
theorem bt_snb {op row : Int32} (hSs : TbS ss R n nS) (hn : n ≤ 7) (hS : nS ≤ 10) {j : Nat} (hj : j < 32) : ∀ m, m ≤ nS → bt (forN (snbF ss row op) m 0) j = exN (fun s => bt op s && (decide (tg ss s 0 = row) && decide (tg ss s 1 = nI j))) m
  | 0, _ => by rw [forN_zero, exN_zero, b_0]
  | m + 1, hm => by
    rw [forN_succ, exN_succ, ← bt_snb hSs hn hS hj m (by omega)]
    generalize forN (snbF ss row op) m 0 = acc
    obtain ⟨a, b, la, lb, hne, s0, s1, s2, s3⟩ := hSs.1 m (by omega)
    have ebj : decide (nI b = nI j) = decide (b = j) := decide_eq_decide.mpr (nI_eq (by omega) (by omega))
    unfold snbF
    simp only [bit_bt (show m < 32 by omega), s1]
    cases hbt : bt op m
    · simp
    · rw [if_neg (by decide)]
      by_cases h0 : tg ss m 0 = row
      · rw [if_pos h0, bt_or1 (by omega) hj, decide_eq_true h0, ebj]
        simp
      · rw [if_neg h0, decide_eq_false h0]
        simp
theorem bt_srs {op rows : Int32} (hSs : TbS ss R n nS) (hn : n ≤ 7) (hS : nS ≤ 10) {j : Nat} (hj : j < 32) : ∀ m, m ≤ nS → bt (forN (srsF ss rows op) m 0) j = exN (fun s => bt op s && (bt rows (tg ss s 1).toNatClampNeg && decide (tg ss s 0 = nI j))) m
  | 0, _ => by rw [forN_zero, exN_zero, b_0]
  | m + 1, hm => by
    rw [forN_succ, exN_succ, ← bt_srs hSs hn hS hj m (by omega)]
    generalize forN (srsF ss rows op) m 0 = acc
    obtain ⟨a, b, la, lb, hne, s0, s1, s2, s3⟩ := hSs.1 m (by omega)
    have ebj : decide (nI a = nI j) = decide (a = j) := decide_eq_decide.mpr (nI_eq (by omega) (by omega))
    unfold srsF
    simp only [bit_bt (show m < 32 by omega), s1, s0, bit_bt (show b < 32 by omega), nI_clamp (show b < 2147483648 by omega)]
    cases hbt : bt op m
    · simp
    · rw [if_neg (by decide)]
      cases hbr : bt rows b
      · simp
      · rw [if_neg (by decide), bt_or1 (by omega) hj, ebj]
        simp
theorem bt_sg {k : Nat} {sn : Bool} (hn : n ≤ 7) {j : Nat} (hj : j < 32) : ∀ m, m ≤ n → bt (forN (sgF R nW up k sn) m 0) j = (decide (j < m) && (decide (¬ j = k) && (if sn = true then dSee R nW up j k else dSee R nW up k j)))
  | 0, _ => by rw [forN_zero, b_0]; simp
  | m + 1, hm => by
    have ih := bt_sg (k := k) (sn := sn) hn hj m (by omega)
    rw [forN_succ]
    generalize forN (sgF R nW up k sn) m 0 = acc at ih ⊢
    unfold sgF
    by_cases e : m = j
    · subst e
      rw [decide_eq_false (Nat.lt_irrefl _), Bool.false_and] at ih
      rw [decide_eq_true (show m < m + 1 by omega), Bool.true_and]
      by_cases h : ¬ m = k ∧ (if sn = true then dSee R nW up m k else dSee R nW up k m) = true
      · rw [if_pos h, bt_or1 (by omega) hj, ih, decide_eq_true h.1, h.2]
        simp
      · rw [if_neg h, Int32.or_zero, ih]
        by_cases h1 : m = k
        · simp [h1]
        · have h2 : (if sn = true then dSee R nW up m k else dSee R nW up k m) = false := by
            cases hv : (if sn = true then dSee R nW up m k else dSee R nW up k m)
            · rfl
            · exact absurd ⟨h1, hv⟩ h
          rw [h2]
          simp
    · have e2 : decide (j < m + 1) = decide (j < m) := decide_eq_decide.mpr (by omega)
      rw [e2, ← ih]
      by_cases h : ¬ m = k ∧ (if sn = true then dSee R nW up m k else dSee R nW up k m) = true
      · rw [if_pos h, bt_or1 (by omega) hj, decide_eq_false e, Bool.or_false]
      · rw [if_neg h, Int32.or_zero]
/-- a sight into b from a that is open -/
theorem sight_ex (hSs : TbS ss R n nS) (hW : TbW ss wl R nS nW) (hn : n ≤ 7) (hS : nS ≤ 10) (hW5 : nW ≤ 5) {a b : Nat} (ha : a < n) (hb' : b < n) (h : dSee R nW up a b = true) : ∃ s, s < nS ∧ tg ss s 0 = nI a ∧ tg ss s 1 = nI b ∧ bt (opn nS nW wl up) s = true := by
  have h0 : 0 < rg R (30 + 7 * a + b) := by
    unfold dSee at h
    simp only [Bool.and_eq_true, decide_eq_true_eq] at h
    exact h.1
  obtain ⟨s, hs, s0, s1⟩ := hSs.2.2 a b ha hb' h0
  exact ⟨s, hs, s0, s1, by rw [opn_see hSs hW hn hS hW5 hs ha hb' s0 s1, h]⟩
theorem snb_eq (hSs : TbS ss R n nS) (hW : TbW ss wl R nS nW) (hn : n ≤ 7) (hS : nS ≤ 10) (hW5 : nW ≤ 5) {k : Nat} (hk : k < n) : snb nS ss (nI k) (opn nS nW wl up) = sgM R n nW up k false := by
  unfold snb sgM
  refine b_ext (fun j hj => ?_)
  rw [bt_snb hSs hn hS hj nS (Nat.le_refl _), bt_sg hn hj n (Nat.le_refl _)]
  simp only [Bool.false_eq_true, if_false]
  apply Bool.eq_iff_iff.mpr
  constructor
  · intro h
    obtain ⟨s, hs', hp⟩ := List.any_eq_true.mp h
    have hs := List.mem_range.mp hs'
    simp only [Bool.and_eq_true, decide_eq_true_eq] at hp
    obtain ⟨a, b, la, lb, hne, s0, s1, s2, s3⟩ := hSs.1 s hs
    have ea : a = k := (nI_eq (by omega) (by omega)).mp (s0.symm.trans hp.2.1)
    have eb : b = j := (nI_eq (by omega) (by omega)).mp (s1.symm.trans hp.2.2)
    subst ea
    subst eb
    rw [opn_see hSs hW hn hS hW5 hs la lb s0 s1] at hp
    simp only [Bool.and_eq_true, decide_eq_true_eq]
    exact ⟨lb, fun q => hne q.symm, hp.1⟩
  · intro h
    simp only [Bool.and_eq_true, decide_eq_true_eq] at h
    obtain ⟨s, hs, s0, s1, s2⟩ := sight_ex (wl := wl) hSs hW hn hS hW5 hk h.1 h.2.2
    exact exN_t hs (by simp [s0, s1, s2])
/-- the class's step: those that see one of them -/
theorem bt_step (hSs : TbS ss R n nS) (hW : TbW ss wl R nS nW) (hn : n ≤ 7) (hS : nS ≤ 10) (hW5 : nW ≤ 5) {S : Int32} {j : Nat} (hj : j < 32) : bt (srs nS ss S (opn nS nW wl up)) j = exN (fun b => bt S b && (decide (j < n) && (decide (¬ j = b) && dSee R nW up j b))) n := by
  unfold srs
  rw [bt_srs hSs hn hS hj nS (Nat.le_refl _)]
  apply Bool.eq_iff_iff.mpr
  constructor
  · intro h
    obtain ⟨s, hs', hp⟩ := List.any_eq_true.mp h
    have hs := List.mem_range.mp hs'
    simp only [Bool.and_eq_true, decide_eq_true_eq] at hp
    obtain ⟨a, b, la, lb, hne, s0, s1, s2, s3⟩ := hSs.1 s hs
    have ea : a = j := (nI_eq (by omega) (by omega)).mp (s0.symm.trans hp.2.2)
    subst ea
    rw [opn_see hSs hW hn hS hW5 hs la lb s0 s1, s1, nI_clamp (by omega)] at hp
    exact exN_t lb (by simp [hp.2.1, la, hne, hp.1])
  · intro h
    obtain ⟨b, hb', hp⟩ := List.any_eq_true.mp h
    have hb2 := List.mem_range.mp hb'
    simp only [Bool.and_eq_true, decide_eq_true_eq] at hp
    obtain ⟨s, hs, s0, s1, s2⟩ := sight_ex (wl := wl) hSs hW hn hS hW5 hp.2.1 hb2 hp.2.2.2
    exact exN_t hs (by simp [s0, s1, s2, nI_clamp (show b < 2147483648 by omega), hp.1])
theorem srs_eq (hSs : TbS ss R n nS) (hW : TbW ss wl R nS nW) (hn : n ≤ 7) (hS : nS ≤ 10) (hW5 : nW ≤ 5) {k : Nat} (hk : k < n) : srs nS ss (1 <<< (nI k &&& 31)) (opn nS nW wl up) = sgM R n nW up k true := by
  refine b_ext (fun j hj => ?_)
  unfold sgM
  rw [bt_step hSs hW hn hS hW5 hj, bt_sg hn hj n (Nat.le_refl _)]
  simp only [if_true]
  apply Bool.eq_iff_iff.mpr
  constructor
  · intro h
    obtain ⟨b, hb', hp⟩ := List.any_eq_true.mp h
    have hb2 := List.mem_range.mp hb'
    rw [bt_p2 (by omega) (by omega)] at hp
    simp only [Bool.and_eq_true, decide_eq_true_eq] at hp ⊢
    obtain ⟨e, h1, h2, h3⟩ := hp
    subst e
    exact ⟨h1, h2, h3⟩
  · intro h
    simp only [Bool.and_eq_true, decide_eq_true_eq] at h
    exact exN_t hk (by rw [bt_p2 (by omega) (by omega)]; simp [h.1, h.2.1, h.2.2])
/-- a set of rows is closed: who sees one of them is one of them -/
def Clo (R : List Int32) (n nW : Nat) (up : Int32) (C : Int32) : Prop := ∀ a b, a < n → b < n → ¬ a = b → dSee R nW up a b = true → bt C b = true → bt C a = true
def Sub32 (S C : Int32) : Prop := ∀ j, j < 32 → bt S j = true → bt C j = true
theorem rbF_mono {a b : Nat} {s : Int32} (ha : a < 32) : Sub32 s (rbF R nW up a b s) := by
  intro j hj h
  unfold rbF
  split
  · rw [bt_or1 ha hj, h, Bool.true_or]
  · exact h
theorem rbF_in {a b : Nat} {s C : Int32} (hn : n ≤ 7) (ha : a < n) (hb' : b < n) (hC : Clo R n nW up C) (h : Sub32 s C) : Sub32 (rbF R nW up a b s) C := by
  intro j hj hb2
  unfold rbF at hb2
  split at hb2
  · rename_i q
    rw [bt_or1 (by omega) hj] at hb2
    rcases Bool.or_eq_true _ _ ▸ hb2 with z | z
    · exact h j hj z
    · have e := of_decide_eq_true z
      subst e
      have := q.2.1
      rw [hb_bt (by omega)] at this
      exact hC a b ha hb' q.1 q.2.2 (h b (by omega) this)
  · exact h j hj hb2
theorem forN_sub {F : Nat → Int32 → Int32} (hF : ∀ i s, i < n → Sub32 s (F i s)) {s : Int32} : ∀ m, m ≤ n → Sub32 s (forN F m s)
  | 0, _ => fun _ _ h => h
  | m + 1, hm => fun j hj h => hF m _ (by omega) j hj (forN_sub hF m (by omega) j hj h)
theorem forN_in {F : Nat → Int32 → Int32} {C : Int32} (hF : ∀ i s, i < n → Sub32 s C → Sub32 (F i s) C) {s : Int32} (h : Sub32 s C) : ∀ m, m ≤ n → Sub32 (forN F m s) C
  | 0, _ => h
  | m + 1, hm => hF m _ (by omega) (forN_in hF h m (by omega))
theorem raF_sub {a : Nat} {s : Int32} (ha : a < 32) : Sub32 s (raF R n nW up a s) := forN_sub (fun b t _ => rbF_mono ha) n (Nat.le_refl _)
theorem raF_in {a : Nat} {s C : Int32} (hn : n ≤ 7) (ha : a < n) (hC : Clo R n nW up C) (h : Sub32 s C) : Sub32 (raF R n nW up a s) C := forN_in (fun b _ hb' ht => rbF_in hn ha hb' hC ht) h n (Nat.le_refl _)
/-- a round of the Model takes in every row that sees one of them -/
theorem raF_hit {a b : Nat} {s : Int32} (hn : n ≤ 7) (ha : a < n) (hb' : b < n) (hne : ¬ a = b) (hd : dSee R nW up a b = true) (hs : bt s b = true) : bt (raF R n nW up a s) a = true := by
  unfold raF
  have key : ∀ m, m ≤ n → b < m → bt (forN (rbF R nW up a) m s) a = true := by
    intro m
    induction m with
    | zero => intro _ h; exact absurd h (Nat.not_lt_zero _)
    | succ m ih =>
      intro hm hbm
      rw [forN_succ]
      by_cases e : b = m
      · subst e
        have h1 : bt (forN (rbF R nW up a) b s) b = true := forN_sub (n := n) (fun c t _ => rbF_mono (by omega)) b (by omega) b (by omega) hs
        generalize forN (rbF R nW up a) b s = t at h1
        unfold rbF
        rw [if_pos ⟨hne, by rw [hb_bt (by omega), h1], hd⟩, bt_or1 (by omega) (by omega), decide_eq_true rfl, Bool.or_true]
      · exact rbF_mono (by omega) a (by omega) (ih (by omega) (by omega))
  exact key n (Nat.le_refl _) hb'
theorem rnd_hit {a b : Nat} {s : Int32} (hn : n ≤ 7) (ha : a < n) (hb' : b < n) (hne : ¬ a = b) (hd : dSee R nW up a b = true) (hs : bt s b = true) : bt (forN (raF R n nW up) n s) a = true := by
  have key : ∀ m, m ≤ n → a < m → bt (forN (raF R n nW up) m s) a = true := by
    intro m
    induction m with
    | zero => intro _ h; exact absurd h (Nat.not_lt_zero _)
    | succ m ih =>
      intro hm ham
      rw [forN_succ]
      by_cases e : a = m
      · subst e
        exact raF_hit hn ha hb' hne hd (forN_sub (n := n) (fun c t hc => raF_sub (by omega)) a (by omega) b (by omega) hs)
      · exact raF_sub (by omega) a (by omega) (ih (by omega) (by omega))
  exact key n (Nat.le_refl _) ha
theorem pc_or : ∀ x ∈ List.range 128, ∀ y ∈ List.range 128, ¬ x ||| y = x → pc x < pc (x ||| y) := by decide +kernel
def rcC (nS : Nat) (ss : List Int32) (op : Int32) (i : Nat) (s : Int32) : Int32 := forN (fun _ r => r ||| srs nS ss r op) i s
theorem srs_nI {rows op : Int32} (hSs : TbS ss R n nS) (hn : n ≤ 7) : ∀ m, m ≤ nS → ∃ y, y < 128 ∧ forN (srsF ss rows op) m 0 = nI y
  | 0, _ => ⟨0, by decide, rfl⟩
  | m + 1, hm => by
    obtain ⟨y, hy, ey⟩ := srs_nI (rows := rows) (op := op) hSs hn m (by omega)
    obtain ⟨a, b, la, lb, hne, s0, s1, s2, s3⟩ := hSs.1 m (by omega)
    rw [forN_succ, ey]
    unfold srsF
    split
    · exact ⟨y, hy, rfl⟩
    · split
      · exact ⟨y, hy, rfl⟩
      · refine ⟨y ||| 2 ^ a, Nat.or_lt_two_pow (n := 7) hy (Nat.pow_lt_pow_right (by decide) (by omega)), ?_⟩
        rw [s0, p2 (by omega), nI_orN]
/-- the class's steps come to a closed set, the Model's rounds to the same -/
theorem rch_eq (hSs : TbS ss R n nS) (hW : TbW ss wl R nS nW) (hn : n ≤ 7) (hS : nS ≤ 10) (hW5 : nW ≤ 5) {k : Nat} (hk : k < n) : rcC nS ss (opn nS nW wl up) 7 (1 <<< (nI k &&& 31)) = rchM R n nW up (1 <<< (nI k &&& 31)) := by
  generalize hs0 : (1 : Int32) <<< (nI k &&& 31) = s0
  have e0 : s0 = nI (2 ^ k) := by rw [← hs0]; exact p2 (by omega)
  have hk7 : 2 ^ k < 128 := Nat.pow_lt_pow_right (a := 2) (n := 7) (by decide) (by omega)
  -- the class's sets as numbers
  have num : ∀ i, ∃ x, x < 128 ∧ rcC nS ss (opn nS nW wl up) i s0 = nI x := by
    intro i
    induction i with
    | zero => exact ⟨2 ^ k, hk7, e0⟩
    | succ i ih =>
      obtain ⟨x, hx, ex⟩ := ih
      obtain ⟨y, hy, ey⟩ := srs_nI (rows := nI x) (op := opn nS nW wl up) hSs hn nS (Nat.le_refl _)
      refine ⟨x ||| y, Nat.or_lt_two_pow (n := 7) hx hy, ?_⟩
      unfold rcC at ex ⊢
      rw [forN_succ, ex]
      unfold srs
      rw [ey, nI_orN]
  have grow : ∀ i x, x < 128 → rcC nS ss (opn nS nW wl up) i s0 = nI x → (rcC nS ss (opn nS nW wl up) (i + 1) s0 = rcC nS ss (opn nS nW wl up) i s0 ∨ i + 1 ≤ pc x) := by
    intro i
    induction i with
    | zero =>
      intro x hx ex
      right
      have : nI x = nI (2 ^ k) := ex.symm.trans e0
      have ee : x = 2 ^ k := (nI_eq (by omega) (by omega)).mp this
      rw [ee]
      have h1 := pc_or 0 (by decide) (2 ^ k) (List.mem_range.mpr hk7) (by
        rw [Nat.zero_or]
        exact Nat.pos_iff_ne_zero.mp (Nat.pow_pos (by decide)))
      rw [Nat.zero_or] at h1
      exact Nat.lt_of_le_of_lt (Nat.zero_le _) h1
    | succ i ih =>
      intro x hx ex
      obtain ⟨x', hx', ex'⟩ := num i
      have hst : rcC nS ss (opn nS nW wl up) (i + 1) s0 = rcC nS ss (opn nS nW wl up) i s0 ||| srs nS ss (rcC nS ss (opn nS nW wl up) i s0) (opn nS nW wl up) := rfl
      rcases ih x' hx' ex' with h | h
      · left
        show (rcC nS ss (opn nS nW wl up) (i + 1) s0) ||| srs nS ss (rcC nS ss (opn nS nW wl up) (i + 1) s0) (opn nS nW wl up) = _
        rw [h]
        exact hst.symm.trans h
      · by_cases he : x = x'
        · left
          have h2 : rcC nS ss (opn nS nW wl up) (i + 1) s0 = rcC nS ss (opn nS nW wl up) i s0 := by rw [ex, ex', he]
          show (rcC nS ss (opn nS nW wl up) (i + 1) s0) ||| srs nS ss (rcC nS ss (opn nS nW wl up) (i + 1) s0) (opn nS nW wl up) = _
          rw [h2]
          exact hst.symm.trans h2
        · right
          obtain ⟨y, hy, ey⟩ := srs_nI (rows := nI x') (op := opn nS nW wl up) hSs hn nS (Nat.le_refl _)
          have ex2 : nI x = nI (x' ||| y) := by
            rw [← ex, hst, ex']
            unfold srs
            rw [ey, nI_orN]
          have hxy : x' ||| y < 128 := Nat.or_lt_two_pow (n := 7) hx' hy
          have e3 : x = x' ||| y := (nI_eq (by omega) (by omega)).mp ex2
          have := pc_or x' (List.mem_range.mpr hx') y (List.mem_range.mpr hy) (fun q => he (e3.trans q))
          rw [e3]
          omega
  generalize hC7 : rcC nS ss (opn nS nW wl up) 7 s0 = C
  have fix : C ||| srs nS ss C (opn nS nW wl up) = C := by
    obtain ⟨x, hx, ex⟩ := num 7
    rcases grow 7 x hx ex with h | h
    · rw [← hC7]
      exact h
    · have := pc_le 7 (by decide) x (List.mem_range.mpr hx)
      omega
  have clo : Clo R n nW up C := by
    intro a b ha hb' hne hd hb2
    have : bt (srs nS ss C (opn nS nW wl up)) a = true := by
      rw [bt_step hSs hW hn hS hW5 (by omega)]
      exact exN_t hb' (by simp [hb2, ha, hne, hd])
    rw [← fix, b_or, this, Bool.or_true]
  have sub0 : Sub32 s0 C := by
    rw [← hC7]
    have : ∀ i, Sub32 s0 (rcC nS ss (opn nS nW wl up) i s0) := by
      intro i
      induction i with
      | zero => exact fun _ _ h => h
      | succ i ih =>
        intro j hj h
        show bt (rcC nS ss (opn nS nW wl up) i s0 ||| srs nS ss (rcC nS ss (opn nS nW wl up) i s0) (opn nS nW wl up)) j = true
        rw [b_or, ih j hj h, Bool.true_or]
    exact this 7
  have up1 : ∀ i, Sub32 (forN (fun _ => forN (raF R n nW up) n) i s0) C := by
    intro i
    induction i with
    | zero => exact sub0
    | succ i ih => exact forN_in (fun a _ ha ht => raF_in hn ha clo ht) ih n (Nat.le_refl _)
  have low : ∀ i, Sub32 (rcC nS ss (opn nS nW wl up) i s0) (forN (fun _ => forN (raF R n nW up) n) i s0) := by
    intro i
    induction i with
    | zero => exact fun _ _ h => h
    | succ i ih =>
      intro j hj h
      have h' : bt (rcC nS ss (opn nS nW wl up) i s0 ||| srs nS ss (rcC nS ss (opn nS nW wl up) i s0) (opn nS nW wl up)) j = true := h
      rw [forN_succ]
      rw [b_or] at h'
      rcases Bool.or_eq_true _ _ ▸ h' with z | z
      · exact forN_sub (n := n) (fun c t hc => raF_sub (by omega)) n (Nat.le_refl _) j hj (ih j hj z)
      · rw [bt_step hSs hW hn hS hW5 hj] at z
        obtain ⟨b, hb', hp⟩ := List.any_eq_true.mp z
        have hb2 := List.mem_range.mp hb'
        simp only [Bool.and_eq_true, decide_eq_true_eq] at hp
        exact rnd_hit hn hp.2.1 hb2 hp.2.2.1 hp.2.2.2 (ih b (by omega) hp.1)
  refine b_ext (fun j hj => ?_)
  apply Bool.eq_iff_iff.mpr
  constructor
  · intro h
    have := low 7 j hj
    rw [hC7] at this
    exact this h
  · exact up1 7 j hj
/-- doubt goes from a row to itself alone if nobody sees it -/
theorem rch_self {u : Int32} (hn : n ≤ 7) {k : Nat} (hk : k < n) : (rchM R n nW u (1 <<< (nI k &&& 31)) = 1 <<< (nI k &&& 31)) ↔ ∀ a, a < n → ¬ a = k → dSee R nW u a k = false := by
  have hkk : bt (1 <<< (nI k &&& 31)) k = true := by rw [bt_p2 (by omega) (by omega), decide_eq_true rfl]
  constructor
  · intro h a ha hne
    cases hd : dSee R nW u a k
    · rfl
    · have h1 : bt (forN (raF R n nW u) n (1 <<< (nI k &&& 31))) a = true := rnd_hit hn ha hk hne hd hkk
      have h2 : ∀ i, bt (forN (fun _ => forN (raF R n nW u) n) (i + 1) (1 <<< (nI k &&& 31))) a = true := by
        intro i
        induction i with
        | zero => exact h1
        | succ i ih =>
          rw [forN_succ]
          exact forN_sub (n := n) (fun c t hc => raF_sub (by omega)) n (Nat.le_refl _) a (by omega) ih
      have h3 : bt (rchM R n nW u (1 <<< (nI k &&& 31))) a = true := h2 6
      rw [h, bt_p2 (by omega) (by omega)] at h3
      exact absurd (of_decide_eq_true h3).symm hne
  · intro h
    have clo : Clo R n nW u (1 <<< (nI k &&& 31)) := by
      intro a b ha hb' hne hd hb2
      rw [bt_p2 (by omega) (by omega)] at hb2
      have e := of_decide_eq_true hb2
      subst e
      rw [h a ha hne] at hd
      cases hd
    have up1 : ∀ i, Sub32 (forN (fun _ => forN (raF R n nW u) n) i (1 <<< (nI k &&& 31))) (1 <<< (nI k &&& 31)) := by
      intro i
      induction i with
      | zero => exact fun _ _ z => z
      | succ i ih => exact forN_in (fun a _ ha ht => raF_in hn ha clo ht) ih n (Nat.le_refl _)
    have low : ∀ i, Sub32 (1 <<< (nI k &&& 31)) (forN (fun _ => forN (raF R n nW u) n) i (1 <<< (nI k &&& 31))) := by
      intro i
      induction i with
      | zero => exact fun _ _ z => z
      | succ i ih =>
        intro j hj z
        rw [forN_succ]
        exact forN_sub (n := n) (fun c t hc => raF_sub (by omega)) n (Nat.le_refl _) j hj (ih j hj z)
    refine b_ext (fun j hj => Bool.eq_iff_iff.mpr ⟨up1 7 j hj, low 7 j hj⟩)
end SIGHT
