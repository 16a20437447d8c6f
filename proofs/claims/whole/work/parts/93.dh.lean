/-! ===== reading: the class's draft on its heap ===== -/
theorem exI {w : Int32} {k : Nat} (h1 : 0 ≤ w) (h2 : w ≤ nI k) (hk : k < 2147483648) : ∃ x, x ≤ k ∧ w = nI x := by
  have e1 : 0 ≤ w.toInt := by have := Int32.le_iff_toInt_le.mp h1; rwa [Int32.toInt_zero] at this
  have e2 : w.toInt ≤ (k : Int) := by have := Int32.le_iff_toInt_le.mp h2; rwa [nI_toInt (by omega)] at this
  refine ⟨w.toInt.toNat, by omega, ?_⟩
  apply Int32.toInt_inj.mp
  rw [nI_toInt (by omega)]
  omega
theorem exI1 {w : Int32} {k : Nat} (h1 : 1 ≤ w) (h2 : w ≤ nI k) (hk : k < 2147483648) : ∃ x, 1 ≤ x ∧ x ≤ k ∧ w = nI x := by
  have e1 : 1 ≤ w.toInt := by have := Int32.le_iff_toInt_le.mp h1; rwa [show (1 : Int32).toInt = 1 from rfl] at this
  have e2 : w.toInt ≤ (k : Int) := by have := Int32.le_iff_toInt_le.mp h2; rwa [nI_toInt (by omega)] at this
  refine ⟨w.toInt.toNat, by omega, by omega, ?_⟩
  apply Int32.toInt_inj.mp
  rw [nI_toInt (by omega)]
  omega
theorem pAfter_eb {xs : List Int32} {n j : Nat} {lo hi : Int32} {t : Tk} : pAfter xs n j lo hi t = eb (pWord xs n j t) fun t1 => pNum xs n lo hi t1 := by
  unfold pAfter eb
  cases pWord xs n j t <;> rfl
theorem pRow_eb {xs R : List Int32} {n : Nat} {t : Tk} : pRow xs n R t = eb (pRowH xs R t) fun i => .ok (i, tk xs n t.2.1) := by
  unfold pRow eb
  cases pRowH xs R t <;> rfl
theorem eb_eb {α β γ : Type} {x : Er α} {f : α → Er β} {g : β → Er γ} : eb (eb x f) g = eb x fun a => eb (f a) g := by
  cases x <;> rfl
abbrev FgD (H H' : List AC) : Prop := Fg [18, 20, 22, 24, 26, 28] [(29, 3), (29, 4), (29, 5), (29, 6), (29, 7), (29, 8), (16, 0), (16, 1), (17, 2), (19, 2), (21, 2), (23, 2), (25, 2), (27, 2)] H H'
/-- the rooms of the draft's tables -/
def Rm (H : List AC) : Prop := fi H 17 0 = nI 7 ∧ fi H 19 0 = nI 10 ∧ fi H 21 0 = nI 5 ∧ fi H 23 0 = nI 6 ∧ fi H 25 0 = nI 5 ∧ fi H 27 0 = nI 5
def Cd (H : List AC) (c2 c3 c4 c5 c6 c7 : Nat) : Prop := fi H 17 2 = nI c2 ∧ fi H 19 2 = nI c3 ∧ fi H 21 2 = nI c4 ∧ fi H 23 2 = nI c5 ∧ fi H 25 2 = nI c6 ∧ fi H 27 2 = nI c7
/-- the draft, on both sides -/
def DH (H : List AC) (xs : List Int32) (n : Nat) (R : List Int32) (c2 c3 c4 c5 c6 c7 : Nat) : Prop := Shp H ∧ Rm H ∧ Cd H c2 c3 c4 c5 c6 c7 ∧ DT (ar H 18) (ar H 20) (ar H 22) (ar H 24) (ar H 26) (ar H 28) xs R c2 c3 c4 c5 c6 c7 n ∧ n ≤ 900 ∧ fi H 16 0 = rg R 0 ∧ fi H 16 1 = rg R 1 ∧ fi H 29 6 = rg R 8 ∧ (rg R 8 = 0 → c2 = 0 ∧ c3 = 0 ∧ c4 = 0 ∧ c5 = 0 ∧ c6 = 0 ∧ c7 = 0)
section DHS
variable {xs R : List Int32} {n c2 c3 c4 c5 c6 c7 : Nat} {t : Tk} {H H' : List AC} {S : List Nat} {F : List (Nat × Nat)}
theorem CP.og (h : CP H xs n t) (hF : Fg S F H H') (hs : 2 ∉ S ∧ 29 ∉ S) (hf : (29, 2) ∉ F ∧ (29, 3) ∉ F ∧ (29, 4) ∉ F ∧ (29, 5) ∉ F) : CP H' xs n t := by
  obtain ⟨⟨hS, hn, h9, f3, f4, f5, ha, he, et⟩, e2⟩ := h
  have a2 : ar H' 2 = ar H 2 := hF.arr hs.1
  refine ⟨⟨hF.shp, ?_, h9, ?_, ?_, ?_, ha, he, ?_⟩, a2.trans e2⟩
  · rw [hF.int hs.2 hf.1]; exact hn
  · rw [hF.int hs.2 hf.2.1]; exact f3
  · rw [hF.int hs.2 hf.2.2.1]; exact f4
  · rw [hF.int hs.2 hf.2.2.2]; exact f5
  · rw [a2]; exact et
theorem Rm.og (h : Rm H) (hF : Fg S F H H') (hs : ∀ a ∈ S, ¬ a = 17 ∧ ¬ a = 19 ∧ ¬ a = 21 ∧ ¬ a = 23 ∧ ¬ a = 25 ∧ ¬ a = 27) (hf : ∀ p ∈ F, ¬ p.2 = 0 ∨ p.1 < 17 ∨ 28 < p.1) : Rm H' := by
  have k : ∀ a, a = 17 ∨ a = 19 ∨ a = 21 ∨ a = 23 ∨ a = 25 ∨ a = 27 → fi H' a 0 = fi H a 0 := fun a ha => hF.int (fun q => by have := hs a q; omega) (fun q => by have := hf _ q; simp at this; omega)
  unfold Rm at h ⊢
  rw [k 17 (by decide), k 19 (by decide), k 21 (by decide), k 23 (by decide), k 25 (by decide), k 27 (by decide)]
  exact h
theorem DH.shp (h : DH H xs n R c2 c3 c4 c5 c6 c7) : Shp H := h.1
theorem DH.of (h : DH H xs n R c2 c3 c4 c5 c6 c7) (hF : FgR H H') : DH H' xs n R c2 c3 c4 c5 c6 c7 := by
  obtain ⟨hS, hr, ⟨d2, d3, d4, d5, d6, d7⟩, hT, h9, e0, e1, e6, z⟩ := h
  refine ⟨hF.shp, hr.og hF (by decide) (by decide), ⟨?_, ?_, ?_, ?_, ?_, ?_⟩, ?_, h9, ?_, ?_, ?_, z⟩
  · rw [hF.int (by decide) (by decide)]; exact d2
  · rw [hF.int (by decide) (by decide)]; exact d3
  · rw [hF.int (by decide) (by decide)]; exact d4
  · rw [hF.int (by decide) (by decide)]; exact d5
  · rw [hF.int (by decide) (by decide)]; exact d6
  · rw [hF.int (by decide) (by decide)]; exact d7
  · rw [hF.arr (by decide), hF.arr (by decide), hF.arr (by decide), hF.arr (by decide), hF.arr (by decide), hF.arr (by decide)]; exact hT
  · rw [hF.int (by decide) (by decide)]; exact e0
  · rw [hF.int (by decide) (by decide)]; exact e1
  · rw [hF.int (by decide) (by decide)]; exact e6
theorem Fg.d (h : FgR H H') : FgD H H' := h.mono (by decide) (by decide)
theorem DH.nmp (h : DH H xs n R c2 c3 c4 c5 c6 c7) : NmP H c2 := by
  obtain ⟨hS, hr, ⟨d2, d3, d4, d5, d6, d7⟩, hT, h9, e0, e1, e6, z⟩ := h
  obtain ⟨⟨a2, a3, a4, a5, a6, a7, b2, b3, b4, b5, b6, b7⟩, _, _, _, _, _, _, hM, hV⟩ := hT
  refine ⟨d2, b2, fun i hi => ?_⟩
  obtain ⟨q, m, m0, m8, qp, eq, _⟩ := hM.1 i hi
  exact ⟨q, by omega, eq⟩
theorem DH.nmr (h : DH H xs n R c2 c3 c4 c5 c6 c7) : NmR xs (ar H 18) R c2 n := h.2.2.2.1.2.2.2.2.2.2.2.1
theorem DH.mn (h : DH H xs n R c2 c3 c4 c5 c6 c7) : Mn R c2 c3 c4 c5 c6 c7 := h.2.2.2.1.1
theorem DH.n9 (h : DH H xs n R c2 c3 c4 c5 c6 c7) : n ≤ 900 := h.2.2.2.2.1
end DHS
