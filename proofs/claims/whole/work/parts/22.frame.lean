/-! ===== frames by fields: S whole cells, F fields that may have changed ===== -/
def Fg (S : List Nat) (F : List (Nat × Nat)) (H H' : List AC) : Prop := H'.length = H.length ∧ Shp H' ∧ (∀ a, a ∉ S → ar H' a = ar H a) ∧ (∀ a f, a ∉ S → (a, f) ∉ F → fi H' a f = fi H a f) ∧ (∀ a f, a ∉ S → (a, f) ∉ F → fl H' a f = fl H a f) ∧ (∀ a, 84 ≤ a → a ∉ S → H'[a]? = H[a]?)
section FG
variable {S T : List Nat} {F G : List (Nat × Nat)} {H H' H2 : List AC} {a b f g ci : Nat}
theorem Fg.shp (h : Fg S F H H') : Shp H' := h.2.1
theorem Fg.len (h : Fg S F H H') : H'.length = H.length := h.1
theorem Fg.arr (h : Fg S F H H') (ha : a ∉ S) : ar H' a = ar H a := h.2.2.1 a ha
theorem Fg.int (h : Fg S F H H') (ha : a ∉ S) (hf : (a, f) ∉ F) : fi H' a f = fi H a f := h.2.2.2.1 a f ha hf
theorem Fg.lng (h : Fg S F H H') (ha : a ∉ S) (hf : (a, f) ∉ F) : fl H' a f = fl H a f := h.2.2.2.2.1 a f ha hf
theorem Fg.tail (h : Fg S F H H') (h8 : 84 ≤ a) (ha : a ∉ S) : H'[a]? = H[a]? := h.2.2.2.2.2 a h8 ha
theorem Fg.rfl' (h : Shp H) : Fg S F H H := ⟨rfl, h, fun _ _ => rfl, fun _ _ _ _ => rfl, fun _ _ _ _ => rfl, fun _ _ _ => rfl⟩
theorem Fg.trans (h1 : Fg S F H H') (h2 : Fg S F H' H2) : Fg S F H H2 := ⟨h2.1.trans h1.1, h2.2.1, fun a ha => (h2.arr ha).trans (h1.arr ha), fun _ _ ha hf => (h2.int ha hf).trans (h1.int ha hf), fun _ _ ha hf => (h2.lng ha hf).trans (h1.lng ha hf), fun _ h8 ha => (h2.tail h8 ha).trans (h1.tail h8 ha)⟩
theorem Fg.mono (h : Fg S F H H') (hs : ∀ a ∈ S, a ∈ T) (hf : ∀ p ∈ F, p ∈ G ∨ p.1 ∈ T) : Fg T G H H' := by
  have key : ∀ a f, a ∉ T → (a, f) ∉ G → (a, f) ∉ F := fun a f ha hg q => by
    rcases hf _ q with z | z
    · exact hg z
    · exact ha z
  exact ⟨h.1, h.2.1, fun a ha => h.arr (fun q => ha (hs a q)), fun a f ha hg => h.int (fun q => ha (hs a q)) (key a f ha hg), fun a f ha hg => h.lng (fun q => ha (hs a q)) (key a f ha hg), fun a h8 ha => h.tail h8 (fun q => ha (hs a q))⟩
theorem hpf_tail {v : Value} (h : ¬ a = b) : (hpf H a f v)[b]? = H[b]? := by
  unfold hpf
  split
  · rw [List.getElem?_set, if_neg h]
  · rfl
theorem Fr.lng (h : Fr S H H') (ha : a ∉ S) : fl H' a f = fl H a f := by
  unfold fl
  rw [h.2.2 a ha]
theorem Fr.fg (h : Fr S H H') : Fg S F H H' := ⟨h.1, h.2.1, fun _ ha => h.arr ha, fun _ _ ha _ => h.int ha, fun _ _ ha _ => h.lng ha, fun a _ ha => h.2.2 a ha⟩
theorem Fr.tr {S2 : List Nat} (h1 : Fr S H H') (h2 : Fr T H' H2) (hs : ∀ a ∈ S, a ∈ S2) (ht : ∀ a ∈ T, a ∈ S2) : Fr S2 H H2 := (h1.mono hs).trans (h2.mono ht)
theorem Fg.tr {S2 : List Nat} {F2 : List (Nat × Nat)} (h1 : Fg S F H H') (h2 : Fg T G H' H2) (hs : ∀ a ∈ S, a ∈ S2) (hf : ∀ p ∈ F, p ∈ F2 ∨ p.1 ∈ S2) (ht : ∀ a ∈ T, a ∈ S2) (hg : ∀ p ∈ G, p ∈ F2 ∨ p.1 ∈ S2) : Fg S2 F2 H H2 := (h1.mono hs hf).trans (h2.mono ht hg)
theorem fg_hpf {v : Int32} (h : Shp H) (hs : gfl SH a ci f = some (.int 0)) (ha : (a, f) ∈ F) : Fg S F H (hpf H a f (.int v)) := by
  refine ⟨hpf_length, shp_hpf h hs, fun b _ => ar_hpf, fun b g _ hg => fi_hpf_ne (fun q => ?_), fun b g _ hg => fl_hpf_ne (fun q => ?_), fun b h8 _ => hpf_tail (by have := sh_lt hs; omega)⟩
  · obtain ⟨rfl, rfl⟩ := q; exact hg ha
  · obtain ⟨rfl, rfl⟩ := q; exact hg ha
theorem fg_hpfl {v : Int64} (h : Shp H) (hs : gfl SH a ci f = some (.long 0)) (ha : (a, f) ∈ F) : Fg S F H (hpf H a f (.long v)) := by
  refine ⟨hpf_length, shp_hpfl h hs, fun b _ => ar_hpf, fun b g _ hg => fi_hpf_ne (fun q => ?_), fun b g _ hg => fl_hpf_ne (fun q => ?_), fun b h8 _ => hpf_tail (by have := sh_lt hs; omega)⟩
  · obtain ⟨rfl, rfl⟩ := q; exact hg ha
  · obtain ⟨rfl, rfl⟩ := q; exact hg ha
theorem fg_hpa {xs : List Int32} (h : Shp H) (hl : xs.length = (ar H a).length) (ha : a ∈ S) : Fg S F H (hpa H a xs) := (fr_hpa h hl ha).fg
end FG
theorem forN_succ {α : Type} {F : Nat → α → α} {n : Nat} {a : α} : forN F (n + 1) a = F n (forN F n a) := rfl
theorem forN_zero {α : Type} {F : Nat → α → α} {a : α} : forN F 0 a = a := rfl
theorem forN_congr {α : Type} {F G : Nat → α → α} : ∀ (n : Nat) (a : α), (∀ i, i < n → ∀ x, F i x = G i x) → forN F n a = forN G n a
  | 0, _, _ => rfl
  | n + 1, a, h => by rw [forN, forN, forN_congr n a (fun i hi x => h i (by omega) x), h n (by omega)]
theorem dbt_congr {n : Nat} {xs ys : List Int32} (h : ∀ i, i < n → xs.getD i 0 = ys.getD i 0) (hn : n < 100000) : dbt n xs = dbt n ys := by
  unfold dbt
  refine forN_congr n 0 (fun i hi x => ?_)
  unfold dbtF
  rw [cAt_nI (by omega), cAt_nI (by omega), h i hi]
