/-! ===== the law answers 1 ===== -/
theorem shp00 : Shp H00 := by
  unfold Shp
  rw [List.take_of_length_le (by decide +kernel)]
  unfold H00 HA0 HB0 SH
  simp only [List.cons_append, List.nil_append, List.map_cons, List.map_nil, shc, shv, List.length_replicate]
theorem inv00 : INV H00 := by
  have nlt : ∀ i : Nat, ¬ i < 0 := fun i => Nat.not_lt_zero i
  have e2 : ar H00 2 = List.replicate 900 0 := rfl
  have e69 : ar H00 69 = List.replicate 900 0 := rfl
  have e71 : ar H00 71 = Z211 := rfl
  have e73 : ar H00 73 = List.replicate 10 0 := rfl
  have rz : ∀ m q : Nat, (List.replicate m (0 : Int32)).getD q 0 = 0 := fun m q => by
    rw [List.getD_eq_getElem?_getD, List.getElem?_replicate]
    split <;> rfl
  refine ⟨Z211, List.replicate 10 0, [], [], 0, 0, 0, 0, 0, 0, 0, ⟨⟨shp00, ⟨?_, ?_, ?_, ?_, ?_, ?_, by decide, by decide, by decide, by decide, by decide, by decide⟩, fun i hi => absurd hi (nlt i), ⟨fun i hi => absurd hi (nlt i), fun i _ hi => absurd hi (nlt i), fun a _ ha => absurd ha (nlt a)⟩, ⟨fun i hi => absurd hi (nlt i), fun i _ hi => absurd hi (nlt i)⟩, fun i hi => absurd hi (nlt i), fun i hi => absurd hi (nlt i), fun i hi => absurd hi (nlt i), ?_, ?_⟩, ⟨fun i hi => absurd hi (nlt i), ?_, ?_, ?_⟩, ⟨List.length_replicate, fun i hi => absurd hi (nlt i)⟩⟩, ⟨shp00, e71, e73, ⟨rgZ, rgZ, rgZ, rgZ, rgZ, rgZ, by decide, by decide, by decide, by decide, by decide, by decide⟩, ?_⟩, ⟨0, by decide, ?_, ?_, ?_, by decide, fun i hi => absurd hi (nlt i)⟩, ⟨?_, ?_, ?_, by decide, fun i hi => absurd hi (nlt i)⟩, ⟨?_, by decide, fun i hi => absurd hi (nlt i)⟩, ⟨?_, by decide, fun i hi => absurd hi (nlt i)⟩, ⟨?_, ?_, by decide, by rw [e2, e69], fun q => ?_⟩, ⟨?_, ?_, fun z => ?_⟩, ⟨⟨?_, ?_, ?_, ?_, ?_, ?_⟩, fun a c h8 e => ?_⟩, ⟨⟨⟨0, by decide, rgZ⟩, fun i hi => absurd hi (nlt i)⟩, fun i hi => absurd hi (nlt i), fun i hi => absurd hi (nlt i), ⟨0, by decide, rgZ⟩, ⟨⟨List.length_replicate, fun i hi => absurd hi (nlt i)⟩, ⟨0, by decide, rz 10 7⟩, ⟨0, by decide, rz 10 8⟩, ⟨0, by decide, rz 10 9⟩⟩, fun s q => absurd q (by simp), fun s q => absurd q (by simp), fun _ => ⟨rfl, rfl, fun j _ => rgZ, rz 10 9, rfl, rfl⟩⟩⟩
  · decide +kernel
  · decide +kernel
  · decide +kernel
  · decide +kernel
  · decide +kernel
  · decide +kernel
  · rw [rgZ]; decide +kernel
  · rw [rgZ]; decide +kernel
  · rw [rz 10 9]; decide +kernel
  · rw [rz 10 7]; decide +kernel
  · rw [rz 10 8]; decide +kernel
  · decide +kernel
  · decide +kernel
  · decide +kernel
  · decide +kernel
  · decide +kernel
  · decide +kernel
  · decide +kernel
  · decide +kernel
  · decide +kernel
  · decide +kernel
  · decide +kernel
  · rw [e2, rz 900 q]; decide
  · decide +kernel
  · decide +kernel
  · exact absurd z (by decide +kernel)
  · decide +kernel
  · decide +kernel
  · decide +kernel
  · decide +kernel
  · decide +kernel
  · decide +kernel
  · have hl : H00.length = 84 := by decide +kernel
    rw [List.getElem?_eq_none (by omega)] at e
    exact absurd e (by simp)
theorem law_wp {scr : List Int32} (hL : scr.length ≤ 3072) : Wp scr 17 0 0 [some (.retAddr 1000), none, none, none, none, none, none] [] [] (fun r H' => r = some (.int 1) ∧ INV H' ∧ H'.length ≤ 700) := by
  refine (Wp_b (o := some (3, [some (.retAddr 1000), none, none, none, none, none, none], [.ref 0], [.inl (11, fdef 11)])) a0_0 rfl rfl rfl).mpr ?_
  show Wp scr 17 0 3 [some (.retAddr 1000), none, none, none, none, none, none] [.ref 0] [.inl (11, fdef 11)] _
  rw [w0_3]
  refine (Wp_c a0_4 rfl rfl (by decide)).mpr ⟨by decide +kernel, ?_⟩
  refine ⟨1200, none, HA0, ?_, rfl, Or.inl rfl, ?_⟩
  · rw [run_ind _ _ _ _ _ _ _ (by decide)]; exact isN_eq init_A
  show Wp scr 17 0 7 [some (.retAddr 1000), none, none, none, none, none, none] [.ref 0] HA0 _
  rw [w0_7]
  have hb8 : bstep scr 0 8 (.new 16) [12, 1409] [some (.retAddr 1000), some (.ref 0), none, none, none, none, none] [] HA0 = some (11, [some (.retAddr 1000), some (.ref 0), none, none, none, none, none], [.ref 68], HA0 ++ [.inl (12, fdef 12)]) := by
    simp only [bstep]
    rw [if_pos ⟨by decide, by decide +kernel⟩]
    rfl
  refine (Wp_b a0_8 rfl rfl hb8).mpr ?_
  show Wp scr 17 0 11 [some (.retAddr 1000), some (.ref 0), none, none, none, none, none] [.ref 68] (HA0 ++ [.inl (12, fdef 12)]) _
  rw [w0_11]
  refine (Wp_c a0_12 rfl rfl (by decide)).mpr ⟨by decide +kernel, ?_⟩
  refine ⟨400, none, HA0 ++ HB0, ?_, rfl, Or.inl rfl, ?_⟩
  · rw [run_ind _ _ _ _ _ _ _ (by decide)]; exact isN_eq init_B
  show Wp scr 17 0 15 [some (.retAddr 1000), some (.ref 0), none, none, none, none, none] [.ref 68] (HA0 ++ HB0) _
  rw [w0_15, w0_16]
  have hb17 : bstep scr 0 17 (.newarray .long) [] [some (.retAddr 1000), some (.ref 0), some (.ref 68), none, none, none, none] [.int 1] (HA0 ++ HB0) = some (19, [some (.retAddr 1000), some (.ref 0), some (.ref 68), none, none, none, none], [.ref 83], H00) := by
    simp only [bstep]
    rw [if_neg (by decide +kernel)]
    rfl
  refine (Wp_b a0_17 rfl rfl hb17).mpr ?_
  show Wp scr 17 0 19 [some (.retAddr 1000), some (.ref 0), some (.ref 68), none, none, none, none] [.ref 83] H00 _
  rw [w0_19, w0_20, w0_21]
  exact law_loop (d := 0) hL (scr.length + 1) 0 H00 none none (by omega) (by omega) inv00 (by decide +kernel) (Or.inl rfl) (Or.inl rfl)
