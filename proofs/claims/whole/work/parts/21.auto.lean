/-! ===== families of facts for simp: shape and values behind writes ===== -/
theorem fl_hpf_ne {H : List AC} {a b f g : Nat} {v : Value} (hn : ¬ (a = b ∧ f = g)) : fl (hpf H a f v) b g = fl H b g := by
  unfold hpf
  split
  · rename_i c fs hc
    unfold fl
    rw [List.getElem?_set]
    by_cases e : a = b
    · subst e
      have hl : a < H.length := (List.getElem?_eq_some_iff.mp hc).1
      have hfg : f ≠ g := fun q => hn ⟨rfl, q⟩
      simp only [hl, if_true, hc, List.getElem?_set_ne hfg]
    · simp only [e, if_false]
  · rfl
theorem fl_hpf_eq {H : List AC} {a f ci : Nat} {v : Int64} {u : Value} (hs : gfl H a ci f = some u) : fl (hpf H a f (.long v)) a f = v := by
  unfold gfl at hs
  split at hs
  · rename_i c fs hc
    split at hs
    · unfold hpf
      simp only [hc]
      unfold fl
      have hl : a < H.length := (List.getElem?_eq_some_iff.mp hc).1
      have hl2 : f < fs.length := (List.getElem?_eq_some_iff.mp hs).1
      simp [hl, hl2]
    · cases hs
  · cases hs
theorem fl_hpa {H : List AC} {a b g : Nat} {xs : List Int32} : fl (hpa H a xs) b g = fl H b g := by
  unfold hpa
  split
  · rename_i ys hc
    unfold fl
    rw [List.getElem?_set]
    by_cases e : a = b
    · subst e
      have hl : a < H.length := (List.getElem?_eq_some_iff.mp hc).1
      simp only [hl, if_true, hc]
    · simp only [e, if_false]
  · rfl
theorem sf_0_1 {H : List AC} {v : Int32} (h : Shp H) : Shp (hpf H 0 1 (.int v)) := shp_hpf (ci := 11) h rfl
theorem fe_0_1 {H : List AC} {v : Int32} (h : Shp H) : fi (hpf H 0 1 (.int v)) 0 1 = v := fi_hpf_eq (g_0_1 h)
theorem sf_0_13 {H : List AC} {v : Int32} (h : Shp H) : Shp (hpf H 0 13 (.int v)) := shp_hpf (ci := 11) h rfl
theorem fe_0_13 {H : List AC} {v : Int32} (h : Shp H) : fi (hpf H 0 13 (.int v)) 0 13 = v := fi_hpf_eq (g_0_13 h)
theorem sf_0_14 {H : List AC} {v : Int32} (h : Shp H) : Shp (hpf H 0 14 (.int v)) := shp_hpf (ci := 11) h rfl
theorem fe_0_14 {H : List AC} {v : Int32} (h : Shp H) : fi (hpf H 0 14 (.int v)) 0 14 = v := fi_hpf_eq (g_0_14 h)
theorem sf_0_15 {H : List AC} {v : Int32} (h : Shp H) : Shp (hpf H 0 15 (.int v)) := shp_hpf (ci := 11) h rfl
theorem fe_0_15 {H : List AC} {v : Int32} (h : Shp H) : fi (hpf H 0 15 (.int v)) 0 15 = v := fi_hpf_eq (g_0_15 h)
theorem sa_2 {H : List AC} {xs : List Int32} (h : Shp H) (hl : xs.length = 900) : Shp (hpa H 2 xs) := shp_hpa h (by rw [hl, gn_2 h])
theorem ae_2 {H : List AC} {xs : List Int32} (h : Shp H) : ar (hpa H 2 xs) 2 = xs := ar_hpa_eq (ga_2 h)
theorem sf_3_0 {H : List AC} {v : Int32} (h : Shp H) : Shp (hpf H 3 0 (.int v)) := shp_hpf (ci := 6) h rfl
theorem fe_3_0 {H : List AC} {v : Int32} (h : Shp H) : fi (hpf H 3 0 (.int v)) 3 0 = v := fi_hpf_eq (g_3_0 h)
theorem sf_3_1 {H : List AC} {v : Int32} (h : Shp H) : Shp (hpf H 3 1 (.int v)) := shp_hpf (ci := 6) h rfl
theorem fe_3_1 {H : List AC} {v : Int32} (h : Shp H) : fi (hpf H 3 1 (.int v)) 3 1 = v := fi_hpf_eq (g_3_1 h)
theorem sf_4_0 {H : List AC} {v : Int32} (h : Shp H) : Shp (hpf H 4 0 (.int v)) := shp_hpf (ci := 9) h rfl
theorem fe_4_0 {H : List AC} {v : Int32} (h : Shp H) : fi (hpf H 4 0 (.int v)) 4 0 = v := fi_hpf_eq (g_4_0 h)
theorem sf_4_2 {H : List AC} {v : Int32} (h : Shp H) : Shp (hpf H 4 2 (.int v)) := shp_hpf (ci := 9) h rfl
theorem fe_4_2 {H : List AC} {v : Int32} (h : Shp H) : fi (hpf H 4 2 (.int v)) 4 2 = v := fi_hpf_eq (g_4_2 h)
theorem sa_5 {H : List AC} {xs : List Int32} (h : Shp H) (hl : xs.length = 28) : Shp (hpa H 5 xs) := shp_hpa h (by rw [hl, gn_5 h])
theorem ae_5 {H : List AC} {xs : List Int32} (h : Shp H) : ar (hpa H 5 xs) 5 = xs := ar_hpa_eq (ga_5 h)
theorem sf_6_0 {H : List AC} {v : Int32} (h : Shp H) : Shp (hpf H 6 0 (.int v)) := shp_hpf (ci := 9) h rfl
theorem fe_6_0 {H : List AC} {v : Int32} (h : Shp H) : fi (hpf H 6 0 (.int v)) 6 0 = v := fi_hpf_eq (g_6_0 h)
theorem sf_6_2 {H : List AC} {v : Int32} (h : Shp H) : Shp (hpf H 6 2 (.int v)) := shp_hpf (ci := 9) h rfl
theorem fe_6_2 {H : List AC} {v : Int32} (h : Shp H) : fi (hpf H 6 2 (.int v)) 6 2 = v := fi_hpf_eq (g_6_2 h)
theorem sa_7 {H : List AC} {xs : List Int32} (h : Shp H) (hl : xs.length = 40) : Shp (hpa H 7 xs) := shp_hpa h (by rw [hl, gn_7 h])
theorem ae_7 {H : List AC} {xs : List Int32} (h : Shp H) : ar (hpa H 7 xs) 7 = xs := ar_hpa_eq (ga_7 h)
theorem sf_8_0 {H : List AC} {v : Int32} (h : Shp H) : Shp (hpf H 8 0 (.int v)) := shp_hpf (ci := 9) h rfl
theorem fe_8_0 {H : List AC} {v : Int32} (h : Shp H) : fi (hpf H 8 0 (.int v)) 8 0 = v := fi_hpf_eq (g_8_0 h)
theorem sf_8_2 {H : List AC} {v : Int32} (h : Shp H) : Shp (hpf H 8 2 (.int v)) := shp_hpf (ci := 9) h rfl
theorem fe_8_2 {H : List AC} {v : Int32} (h : Shp H) : fi (hpf H 8 2 (.int v)) 8 2 = v := fi_hpf_eq (g_8_2 h)
theorem sa_9 {H : List AC} {xs : List Int32} (h : Shp H) (hl : xs.length = 20) : Shp (hpa H 9 xs) := shp_hpa h (by rw [hl, gn_9 h])
theorem ae_9 {H : List AC} {xs : List Int32} (h : Shp H) : ar (hpa H 9 xs) 9 = xs := ar_hpa_eq (ga_9 h)
theorem sf_10_0 {H : List AC} {v : Int32} (h : Shp H) : Shp (hpf H 10 0 (.int v)) := shp_hpf (ci := 9) h rfl
theorem fe_10_0 {H : List AC} {v : Int32} (h : Shp H) : fi (hpf H 10 0 (.int v)) 10 0 = v := fi_hpf_eq (g_10_0 h)
theorem sf_10_2 {H : List AC} {v : Int32} (h : Shp H) : Shp (hpf H 10 2 (.int v)) := shp_hpf (ci := 9) h rfl
theorem fe_10_2 {H : List AC} {v : Int32} (h : Shp H) : fi (hpf H 10 2 (.int v)) 10 2 = v := fi_hpf_eq (g_10_2 h)
theorem sa_11 {H : List AC} {xs : List Int32} (h : Shp H) (hl : xs.length = 24) : Shp (hpa H 11 xs) := shp_hpa h (by rw [hl, gn_11 h])
theorem ae_11 {H : List AC} {xs : List Int32} (h : Shp H) : ar (hpa H 11 xs) 11 = xs := ar_hpa_eq (ga_11 h)
theorem sf_12_0 {H : List AC} {v : Int32} (h : Shp H) : Shp (hpf H 12 0 (.int v)) := shp_hpf (ci := 9) h rfl
theorem fe_12_0 {H : List AC} {v : Int32} (h : Shp H) : fi (hpf H 12 0 (.int v)) 12 0 = v := fi_hpf_eq (g_12_0 h)
theorem sf_12_2 {H : List AC} {v : Int32} (h : Shp H) : Shp (hpf H 12 2 (.int v)) := shp_hpf (ci := 9) h rfl
theorem fe_12_2 {H : List AC} {v : Int32} (h : Shp H) : fi (hpf H 12 2 (.int v)) 12 2 = v := fi_hpf_eq (g_12_2 h)
theorem sa_13 {H : List AC} {xs : List Int32} (h : Shp H) (hl : xs.length = 20) : Shp (hpa H 13 xs) := shp_hpa h (by rw [hl, gn_13 h])
theorem ae_13 {H : List AC} {xs : List Int32} (h : Shp H) : ar (hpa H 13 xs) 13 = xs := ar_hpa_eq (ga_13 h)
theorem sf_14_0 {H : List AC} {v : Int32} (h : Shp H) : Shp (hpf H 14 0 (.int v)) := shp_hpf (ci := 9) h rfl
theorem fe_14_0 {H : List AC} {v : Int32} (h : Shp H) : fi (hpf H 14 0 (.int v)) 14 0 = v := fi_hpf_eq (g_14_0 h)
theorem sf_14_2 {H : List AC} {v : Int32} (h : Shp H) : Shp (hpf H 14 2 (.int v)) := shp_hpf (ci := 9) h rfl
theorem fe_14_2 {H : List AC} {v : Int32} (h : Shp H) : fi (hpf H 14 2 (.int v)) 14 2 = v := fi_hpf_eq (g_14_2 h)
theorem sa_15 {H : List AC} {xs : List Int32} (h : Shp H) (hl : xs.length = 20) : Shp (hpa H 15 xs) := shp_hpa h (by rw [hl, gn_15 h])
theorem ae_15 {H : List AC} {xs : List Int32} (h : Shp H) : ar (hpa H 15 xs) 15 = xs := ar_hpa_eq (ga_15 h)
theorem sf_16_0 {H : List AC} {v : Int32} (h : Shp H) : Shp (hpf H 16 0 (.int v)) := shp_hpf (ci := 6) h rfl
theorem fe_16_0 {H : List AC} {v : Int32} (h : Shp H) : fi (hpf H 16 0 (.int v)) 16 0 = v := fi_hpf_eq (g_16_0 h)
theorem sf_16_1 {H : List AC} {v : Int32} (h : Shp H) : Shp (hpf H 16 1 (.int v)) := shp_hpf (ci := 6) h rfl
theorem fe_16_1 {H : List AC} {v : Int32} (h : Shp H) : fi (hpf H 16 1 (.int v)) 16 1 = v := fi_hpf_eq (g_16_1 h)
theorem sf_17_0 {H : List AC} {v : Int32} (h : Shp H) : Shp (hpf H 17 0 (.int v)) := shp_hpf (ci := 9) h rfl
theorem fe_17_0 {H : List AC} {v : Int32} (h : Shp H) : fi (hpf H 17 0 (.int v)) 17 0 = v := fi_hpf_eq (g_17_0 h)
theorem sf_17_2 {H : List AC} {v : Int32} (h : Shp H) : Shp (hpf H 17 2 (.int v)) := shp_hpf (ci := 9) h rfl
theorem fe_17_2 {H : List AC} {v : Int32} (h : Shp H) : fi (hpf H 17 2 (.int v)) 17 2 = v := fi_hpf_eq (g_17_2 h)
theorem sa_18 {H : List AC} {xs : List Int32} (h : Shp H) (hl : xs.length = 28) : Shp (hpa H 18 xs) := shp_hpa h (by rw [hl, gn_18 h])
theorem ae_18 {H : List AC} {xs : List Int32} (h : Shp H) : ar (hpa H 18 xs) 18 = xs := ar_hpa_eq (ga_18 h)
theorem sf_19_0 {H : List AC} {v : Int32} (h : Shp H) : Shp (hpf H 19 0 (.int v)) := shp_hpf (ci := 9) h rfl
theorem fe_19_0 {H : List AC} {v : Int32} (h : Shp H) : fi (hpf H 19 0 (.int v)) 19 0 = v := fi_hpf_eq (g_19_0 h)
theorem sf_19_2 {H : List AC} {v : Int32} (h : Shp H) : Shp (hpf H 19 2 (.int v)) := shp_hpf (ci := 9) h rfl
theorem fe_19_2 {H : List AC} {v : Int32} (h : Shp H) : fi (hpf H 19 2 (.int v)) 19 2 = v := fi_hpf_eq (g_19_2 h)
theorem sa_20 {H : List AC} {xs : List Int32} (h : Shp H) (hl : xs.length = 40) : Shp (hpa H 20 xs) := shp_hpa h (by rw [hl, gn_20 h])
theorem ae_20 {H : List AC} {xs : List Int32} (h : Shp H) : ar (hpa H 20 xs) 20 = xs := ar_hpa_eq (ga_20 h)
theorem sf_21_0 {H : List AC} {v : Int32} (h : Shp H) : Shp (hpf H 21 0 (.int v)) := shp_hpf (ci := 9) h rfl
theorem fe_21_0 {H : List AC} {v : Int32} (h : Shp H) : fi (hpf H 21 0 (.int v)) 21 0 = v := fi_hpf_eq (g_21_0 h)
theorem sf_21_2 {H : List AC} {v : Int32} (h : Shp H) : Shp (hpf H 21 2 (.int v)) := shp_hpf (ci := 9) h rfl
theorem fe_21_2 {H : List AC} {v : Int32} (h : Shp H) : fi (hpf H 21 2 (.int v)) 21 2 = v := fi_hpf_eq (g_21_2 h)
theorem sa_22 {H : List AC} {xs : List Int32} (h : Shp H) (hl : xs.length = 20) : Shp (hpa H 22 xs) := shp_hpa h (by rw [hl, gn_22 h])
theorem ae_22 {H : List AC} {xs : List Int32} (h : Shp H) : ar (hpa H 22 xs) 22 = xs := ar_hpa_eq (ga_22 h)
theorem sf_23_0 {H : List AC} {v : Int32} (h : Shp H) : Shp (hpf H 23 0 (.int v)) := shp_hpf (ci := 9) h rfl
theorem fe_23_0 {H : List AC} {v : Int32} (h : Shp H) : fi (hpf H 23 0 (.int v)) 23 0 = v := fi_hpf_eq (g_23_0 h)
theorem sf_23_2 {H : List AC} {v : Int32} (h : Shp H) : Shp (hpf H 23 2 (.int v)) := shp_hpf (ci := 9) h rfl
theorem fe_23_2 {H : List AC} {v : Int32} (h : Shp H) : fi (hpf H 23 2 (.int v)) 23 2 = v := fi_hpf_eq (g_23_2 h)
theorem sa_24 {H : List AC} {xs : List Int32} (h : Shp H) (hl : xs.length = 24) : Shp (hpa H 24 xs) := shp_hpa h (by rw [hl, gn_24 h])
theorem ae_24 {H : List AC} {xs : List Int32} (h : Shp H) : ar (hpa H 24 xs) 24 = xs := ar_hpa_eq (ga_24 h)
theorem sf_25_0 {H : List AC} {v : Int32} (h : Shp H) : Shp (hpf H 25 0 (.int v)) := shp_hpf (ci := 9) h rfl
theorem fe_25_0 {H : List AC} {v : Int32} (h : Shp H) : fi (hpf H 25 0 (.int v)) 25 0 = v := fi_hpf_eq (g_25_0 h)
theorem sf_25_2 {H : List AC} {v : Int32} (h : Shp H) : Shp (hpf H 25 2 (.int v)) := shp_hpf (ci := 9) h rfl
theorem fe_25_2 {H : List AC} {v : Int32} (h : Shp H) : fi (hpf H 25 2 (.int v)) 25 2 = v := fi_hpf_eq (g_25_2 h)
theorem sa_26 {H : List AC} {xs : List Int32} (h : Shp H) (hl : xs.length = 20) : Shp (hpa H 26 xs) := shp_hpa h (by rw [hl, gn_26 h])
theorem ae_26 {H : List AC} {xs : List Int32} (h : Shp H) : ar (hpa H 26 xs) 26 = xs := ar_hpa_eq (ga_26 h)
theorem sf_27_0 {H : List AC} {v : Int32} (h : Shp H) : Shp (hpf H 27 0 (.int v)) := shp_hpf (ci := 9) h rfl
theorem fe_27_0 {H : List AC} {v : Int32} (h : Shp H) : fi (hpf H 27 0 (.int v)) 27 0 = v := fi_hpf_eq (g_27_0 h)
theorem sf_27_2 {H : List AC} {v : Int32} (h : Shp H) : Shp (hpf H 27 2 (.int v)) := shp_hpf (ci := 9) h rfl
theorem fe_27_2 {H : List AC} {v : Int32} (h : Shp H) : fi (hpf H 27 2 (.int v)) 27 2 = v := fi_hpf_eq (g_27_2 h)
theorem sa_28 {H : List AC} {xs : List Int32} (h : Shp H) (hl : xs.length = 20) : Shp (hpa H 28 xs) := shp_hpa h (by rw [hl, gn_28 h])
theorem ae_28 {H : List AC} {xs : List Int32} (h : Shp H) : ar (hpa H 28 xs) 28 = xs := ar_hpa_eq (ga_28 h)
theorem sf_29_2 {H : List AC} {v : Int32} (h : Shp H) : Shp (hpf H 29 2 (.int v)) := shp_hpf (ci := 4) h rfl
theorem fe_29_2 {H : List AC} {v : Int32} (h : Shp H) : fi (hpf H 29 2 (.int v)) 29 2 = v := fi_hpf_eq (g_29_2 h)
theorem sf_29_3 {H : List AC} {v : Int32} (h : Shp H) : Shp (hpf H 29 3 (.int v)) := shp_hpf (ci := 4) h rfl
theorem fe_29_3 {H : List AC} {v : Int32} (h : Shp H) : fi (hpf H 29 3 (.int v)) 29 3 = v := fi_hpf_eq (g_29_3 h)
theorem sf_29_4 {H : List AC} {v : Int32} (h : Shp H) : Shp (hpf H 29 4 (.int v)) := shp_hpf (ci := 4) h rfl
theorem fe_29_4 {H : List AC} {v : Int32} (h : Shp H) : fi (hpf H 29 4 (.int v)) 29 4 = v := fi_hpf_eq (g_29_4 h)
theorem sf_29_5 {H : List AC} {v : Int32} (h : Shp H) : Shp (hpf H 29 5 (.int v)) := shp_hpf (ci := 4) h rfl
theorem fe_29_5 {H : List AC} {v : Int32} (h : Shp H) : fi (hpf H 29 5 (.int v)) 29 5 = v := fi_hpf_eq (g_29_5 h)
theorem sf_29_6 {H : List AC} {v : Int32} (h : Shp H) : Shp (hpf H 29 6 (.int v)) := shp_hpf (ci := 4) h rfl
theorem fe_29_6 {H : List AC} {v : Int32} (h : Shp H) : fi (hpf H 29 6 (.int v)) 29 6 = v := fi_hpf_eq (g_29_6 h)
theorem sf_29_7 {H : List AC} {v : Int32} (h : Shp H) : Shp (hpf H 29 7 (.int v)) := shp_hpf (ci := 4) h rfl
theorem fe_29_7 {H : List AC} {v : Int32} (h : Shp H) : fi (hpf H 29 7 (.int v)) 29 7 = v := fi_hpf_eq (g_29_7 h)
theorem sf_29_8 {H : List AC} {v : Int32} (h : Shp H) : Shp (hpf H 29 8 (.int v)) := shp_hpf (ci := 4) h rfl
theorem fe_29_8 {H : List AC} {v : Int32} (h : Shp H) : fi (hpf H 29 8 (.int v)) 29 8 = v := fi_hpf_eq (g_29_8 h)
theorem sf_30_1 {H : List AC} {v : Int32} (h : Shp H) : Shp (hpf H 30 1 (.int v)) := shp_hpf (ci := 8) h rfl
theorem fe_30_1 {H : List AC} {v : Int32} (h : Shp H) : fi (hpf H 30 1 (.int v)) 30 1 = v := fi_hpf_eq (g_30_1 h)
theorem sf_30_2 {H : List AC} {v : Int32} (h : Shp H) : Shp (hpf H 30 2 (.int v)) := shp_hpf (ci := 8) h rfl
theorem fe_30_2 {H : List AC} {v : Int32} (h : Shp H) : fi (hpf H 30 2 (.int v)) 30 2 = v := fi_hpf_eq (g_30_2 h)
theorem sf_30_3 {H : List AC} {v : Int32} (h : Shp H) : Shp (hpf H 30 3 (.int v)) := shp_hpf (ci := 8) h rfl
theorem fe_30_3 {H : List AC} {v : Int32} (h : Shp H) : fi (hpf H 30 3 (.int v)) 30 3 = v := fi_hpf_eq (g_30_3 h)
theorem sa_32 {H : List AC} {xs : List Int32} (h : Shp H) (hl : xs.length = 7) : Shp (hpa H 32 xs) := shp_hpa h (by rw [hl, gn_32 h])
theorem ae_32 {H : List AC} {xs : List Int32} (h : Shp H) : ar (hpa H 32 xs) 32 = xs := ar_hpa_eq (ga_32 h)
theorem sf_33_5 {H : List AC} {v : Int32} (h : Shp H) : Shp (hpf H 33 5 (.int v)) := shp_hpf (ci := 10) h rfl
theorem fe_33_5 {H : List AC} {v : Int32} (h : Shp H) : fi (hpf H 33 5 (.int v)) 33 5 = v := fi_hpf_eq (g_33_5 h)
theorem sf_33_6 {H : List AC} {v : Int32} (h : Shp H) : Shp (hpf H 33 6 (.int v)) := shp_hpf (ci := 10) h rfl
theorem fe_33_6 {H : List AC} {v : Int32} (h : Shp H) : fi (hpf H 33 6 (.int v)) 33 6 = v := fi_hpf_eq (g_33_6 h)
theorem sf_34_1 {H : List AC} {v : Int32} (h : Shp H) : Shp (hpf H 34 1 (.int v)) := shp_hpf (ci := 8) h rfl
theorem fe_34_1 {H : List AC} {v : Int32} (h : Shp H) : fi (hpf H 34 1 (.int v)) 34 1 = v := fi_hpf_eq (g_34_1 h)
theorem sf_34_2 {H : List AC} {v : Int32} (h : Shp H) : Shp (hpf H 34 2 (.int v)) := shp_hpf (ci := 8) h rfl
theorem fe_34_2 {H : List AC} {v : Int32} (h : Shp H) : fi (hpf H 34 2 (.int v)) 34 2 = v := fi_hpf_eq (g_34_2 h)
theorem sf_34_3 {H : List AC} {v : Int32} (h : Shp H) : Shp (hpf H 34 3 (.int v)) := shp_hpf (ci := 8) h rfl
theorem fe_34_3 {H : List AC} {v : Int32} (h : Shp H) : fi (hpf H 34 3 (.int v)) 34 3 = v := fi_hpf_eq (g_34_3 h)
theorem sa_36 {H : List AC} {xs : List Int32} (h : Shp H) (hl : xs.length = 7) : Shp (hpa H 36 xs) := shp_hpa h (by rw [hl, gn_36 h])
theorem ae_36 {H : List AC} {xs : List Int32} (h : Shp H) : ar (hpa H 36 xs) 36 = xs := ar_hpa_eq (ga_36 h)
theorem sa_38 {H : List AC} {xs : List Int32} (h : Shp H) (hl : xs.length = 7) : Shp (hpa H 38 xs) := shp_hpa h (by rw [hl, gn_38 h])
theorem ae_38 {H : List AC} {xs : List Int32} (h : Shp H) : ar (hpa H 38 xs) 38 = xs := ar_hpa_eq (ga_38 h)
theorem sa_40 {H : List AC} {xs : List Int32} (h : Shp H) (hl : xs.length = 7) : Shp (hpa H 40 xs) := shp_hpa h (by rw [hl, gn_40 h])
theorem ae_40 {H : List AC} {xs : List Int32} (h : Shp H) : ar (hpa H 40 xs) 40 = xs := ar_hpa_eq (ga_40 h)
theorem sa_42 {H : List AC} {xs : List Int32} (h : Shp H) (hl : xs.length = 7) : Shp (hpa H 42 xs) := shp_hpa h (by rw [hl, gn_42 h])
theorem ae_42 {H : List AC} {xs : List Int32} (h : Shp H) : ar (hpa H 42 xs) 42 = xs := ar_hpa_eq (ga_42 h)
theorem sf_43_2 {H : List AC} {v : Int32} (h : Shp H) : Shp (hpf H 43 2 (.int v)) := shp_hpf (ci := 1) h rfl
theorem fe_43_2 {H : List AC} {v : Int32} (h : Shp H) : fi (hpf H 43 2 (.int v)) 43 2 = v := fi_hpf_eq (g_43_2 h)
theorem sf_43_3 {H : List AC} {v : Int32} (h : Shp H) : Shp (hpf H 43 3 (.int v)) := shp_hpf (ci := 1) h rfl
theorem fe_43_3 {H : List AC} {v : Int32} (h : Shp H) : fi (hpf H 43 3 (.int v)) 43 3 = v := fi_hpf_eq (g_43_3 h)
theorem sf_43_4 {H : List AC} {v : Int32} (h : Shp H) : Shp (hpf H 43 4 (.int v)) := shp_hpf (ci := 1) h rfl
theorem fe_43_4 {H : List AC} {v : Int32} (h : Shp H) : fi (hpf H 43 4 (.int v)) 43 4 = v := fi_hpf_eq (g_43_4 h)
theorem sf_43_5 {H : List AC} {v : Int32} (h : Shp H) : Shp (hpf H 43 5 (.int v)) := shp_hpf (ci := 1) h rfl
theorem fe_43_5 {H : List AC} {v : Int32} (h : Shp H) : fi (hpf H 43 5 (.int v)) 43 5 = v := fi_hpf_eq (g_43_5 h)
theorem sf_44_5 {H : List AC} {v : Int32} (h : Shp H) : Shp (hpf H 44 5 (.int v)) := shp_hpf (ci := 7) h rfl
theorem fe_44_5 {H : List AC} {v : Int32} (h : Shp H) : fi (hpf H 44 5 (.int v)) 44 5 = v := fi_hpf_eq (g_44_5 h)
theorem sf_44_6 {H : List AC} {v : Int32} (h : Shp H) : Shp (hpf H 44 6 (.int v)) := shp_hpf (ci := 7) h rfl
theorem fe_44_6 {H : List AC} {v : Int32} (h : Shp H) : fi (hpf H 44 6 (.int v)) 44 6 = v := fi_hpf_eq (g_44_6 h)
theorem sf_44_7 {H : List AC} {v : Int32} (h : Shp H) : Shp (hpf H 44 7 (.int v)) := shp_hpf (ci := 7) h rfl
theorem fe_44_7 {H : List AC} {v : Int32} (h : Shp H) : fi (hpf H 44 7 (.int v)) 44 7 = v := fi_hpf_eq (g_44_7 h)
theorem sf_45_1 {H : List AC} {v : Int32} (h : Shp H) : Shp (hpf H 45 1 (.int v)) := shp_hpf (ci := 8) h rfl
theorem fe_45_1 {H : List AC} {v : Int32} (h : Shp H) : fi (hpf H 45 1 (.int v)) 45 1 = v := fi_hpf_eq (g_45_1 h)
theorem sf_45_2 {H : List AC} {v : Int32} (h : Shp H) : Shp (hpf H 45 2 (.int v)) := shp_hpf (ci := 8) h rfl
theorem fe_45_2 {H : List AC} {v : Int32} (h : Shp H) : fi (hpf H 45 2 (.int v)) 45 2 = v := fi_hpf_eq (g_45_2 h)
theorem sf_45_3 {H : List AC} {v : Int32} (h : Shp H) : Shp (hpf H 45 3 (.int v)) := shp_hpf (ci := 8) h rfl
theorem fe_45_3 {H : List AC} {v : Int32} (h : Shp H) : fi (hpf H 45 3 (.int v)) 45 3 = v := fi_hpf_eq (g_45_3 h)
theorem sa_47 {H : List AC} {xs : List Int32} (h : Shp H) (hl : xs.length = 7) : Shp (hpa H 47 xs) := shp_hpa h (by rw [hl, gn_47 h])
theorem ae_47 {H : List AC} {xs : List Int32} (h : Shp H) : ar (hpa H 47 xs) 47 = xs := ar_hpa_eq (ga_47 h)
theorem sa_49 {H : List AC} {xs : List Int32} (h : Shp H) (hl : xs.length = 21) : Shp (hpa H 49 xs) := shp_hpa h (by rw [hl, gn_49 h])
theorem ae_49 {H : List AC} {xs : List Int32} (h : Shp H) : ar (hpa H 49 xs) 49 = xs := ar_hpa_eq (ga_49 h)
theorem sa_51 {H : List AC} {xs : List Int32} (h : Shp H) (hl : xs.length = 147) : Shp (hpa H 51 xs) := shp_hpa h (by rw [hl, gn_51 h])
theorem ae_51 {H : List AC} {xs : List Int32} (h : Shp H) : ar (hpa H 51 xs) 51 = xs := ar_hpa_eq (ga_51 h)
theorem sf_52_6 {H : List AC} {v : Int32} (h : Shp H) : Shp (hpf H 52 6 (.int v)) := shp_hpf (ci := 2) h rfl
theorem fe_52_6 {H : List AC} {v : Int32} (h : Shp H) : fi (hpf H 52 6 (.int v)) 52 6 = v := fi_hpf_eq (g_52_6 h)
theorem sf_52_7 {H : List AC} {v : Int32} (h : Shp H) : Shp (hpf H 52 7 (.int v)) := shp_hpf (ci := 2) h rfl
theorem fe_52_7 {H : List AC} {v : Int32} (h : Shp H) : fi (hpf H 52 7 (.int v)) 52 7 = v := fi_hpf_eq (g_52_7 h)
theorem sa_54 {H : List AC} {xs : List Int32} (h : Shp H) (hl : xs.length = 6) : Shp (hpa H 54 xs) := shp_hpa h (by rw [hl, gn_54 h])
theorem ae_54 {H : List AC} {xs : List Int32} (h : Shp H) : ar (hpa H 54 xs) 54 = xs := ar_hpa_eq (ga_54 h)
theorem sa_56 {H : List AC} {xs : List Int32} (h : Shp H) (hl : xs.length = 64) : Shp (hpa H 56 xs) := shp_hpa h (by rw [hl, gn_56 h])
theorem ae_56 {H : List AC} {xs : List Int32} (h : Shp H) : ar (hpa H 56 xs) 56 = xs := ar_hpa_eq (ga_56 h)
theorem sa_58 {H : List AC} {xs : List Int32} (h : Shp H) (hl : xs.length = 729) : Shp (hpa H 58 xs) := shp_hpa h (by rw [hl, gn_58 h])
theorem ae_58 {H : List AC} {xs : List Int32} (h : Shp H) : ar (hpa H 58 xs) 58 = xs := ar_hpa_eq (ga_58 h)
theorem sa_60 {H : List AC} {xs : List Int32} (h : Shp H) (hl : xs.length = 729) : Shp (hpa H 60 xs) := shp_hpa h (by rw [hl, gn_60 h])
theorem ae_60 {H : List AC} {xs : List Int32} (h : Shp H) : ar (hpa H 60 xs) 60 = xs := ar_hpa_eq (ga_60 h)
theorem sf_61_2 {H : List AC} {v : Int64} (h : Shp H) : Shp (hpf H 61 2 (.long v)) := shp_hpfl (ci := 3) h rfl
theorem fe_61_2 {H : List AC} {v : Int64} (h : Shp H) : fl (hpf H 61 2 (.long v)) 61 2 = v := fl_hpf_eq (g_61_2 h)
theorem sf_61_3 {H : List AC} {v : Int64} (h : Shp H) : Shp (hpf H 61 3 (.long v)) := shp_hpfl (ci := 3) h rfl
theorem fe_61_3 {H : List AC} {v : Int64} (h : Shp H) : fl (hpf H 61 3 (.long v)) 61 3 = v := fl_hpf_eq (g_61_3 h)
theorem sf_62_0 {H : List AC} {v : Int32} (h : Shp H) : Shp (hpf H 62 0 (.int v)) := shp_hpf (ci := 5) h rfl
theorem fe_62_0 {H : List AC} {v : Int32} (h : Shp H) : fi (hpf H 62 0 (.int v)) 62 0 = v := fi_hpf_eq (g_62_0 h)
theorem sf_62_2 {H : List AC} {v : Int32} (h : Shp H) : Shp (hpf H 62 2 (.int v)) := shp_hpf (ci := 5) h rfl
theorem fe_62_2 {H : List AC} {v : Int32} (h : Shp H) : fi (hpf H 62 2 (.int v)) 62 2 = v := fi_hpf_eq (g_62_2 h)
theorem sf_62_3 {H : List AC} {v : Int32} (h : Shp H) : Shp (hpf H 62 3 (.int v)) := shp_hpf (ci := 5) h rfl
theorem fe_62_3 {H : List AC} {v : Int32} (h : Shp H) : fi (hpf H 62 3 (.int v)) 62 3 = v := fi_hpf_eq (g_62_3 h)
theorem sa_64 {H : List AC} {xs : List Int32} (h : Shp H) (hl : xs.length = 160) : Shp (hpa H 64 xs) := shp_hpa h (by rw [hl, gn_64 h])
theorem ae_64 {H : List AC} {xs : List Int32} (h : Shp H) : ar (hpa H 64 xs) 64 = xs := ar_hpa_eq (ga_64 h)
theorem sf_65_0 {H : List AC} {v : Int32} (h : Shp H) : Shp (hpf H 65 0 (.int v)) := shp_hpf (ci := 5) h rfl
theorem fe_65_0 {H : List AC} {v : Int32} (h : Shp H) : fi (hpf H 65 0 (.int v)) 65 0 = v := fi_hpf_eq (g_65_0 h)
theorem sf_65_2 {H : List AC} {v : Int32} (h : Shp H) : Shp (hpf H 65 2 (.int v)) := shp_hpf (ci := 5) h rfl
theorem fe_65_2 {H : List AC} {v : Int32} (h : Shp H) : fi (hpf H 65 2 (.int v)) 65 2 = v := fi_hpf_eq (g_65_2 h)
theorem sf_65_3 {H : List AC} {v : Int32} (h : Shp H) : Shp (hpf H 65 3 (.int v)) := shp_hpf (ci := 5) h rfl
theorem fe_65_3 {H : List AC} {v : Int32} (h : Shp H) : fi (hpf H 65 3 (.int v)) 65 3 = v := fi_hpf_eq (g_65_3 h)
theorem sa_67 {H : List AC} {xs : List Int32} (h : Shp H) (hl : xs.length = 30) : Shp (hpa H 67 xs) := shp_hpa h (by rw [hl, gn_67 h])
theorem ae_67 {H : List AC} {xs : List Int32} (h : Shp H) : ar (hpa H 67 xs) 67 = xs := ar_hpa_eq (ga_67 h)
theorem sf_68_0 {H : List AC} {v : Int32} (h : Shp H) : Shp (hpf H 68 0 (.int v)) := shp_hpf (ci := 12) h rfl
theorem fe_68_0 {H : List AC} {v : Int32} (h : Shp H) : fi (hpf H 68 0 (.int v)) 68 0 = v := fi_hpf_eq (g_68_0 h)
theorem sf_68_2 {H : List AC} {v : Int32} (h : Shp H) : Shp (hpf H 68 2 (.int v)) := shp_hpf (ci := 12) h rfl
theorem fe_68_2 {H : List AC} {v : Int32} (h : Shp H) : fi (hpf H 68 2 (.int v)) 68 2 = v := fi_hpf_eq (g_68_2 h)
theorem sf_68_3 {H : List AC} {v : Int32} (h : Shp H) : Shp (hpf H 68 3 (.int v)) := shp_hpf (ci := 12) h rfl
theorem fe_68_3 {H : List AC} {v : Int32} (h : Shp H) : fi (hpf H 68 3 (.int v)) 68 3 = v := fi_hpf_eq (g_68_3 h)
theorem sf_68_4 {H : List AC} {v : Int32} (h : Shp H) : Shp (hpf H 68 4 (.int v)) := shp_hpf (ci := 12) h rfl
theorem fe_68_4 {H : List AC} {v : Int32} (h : Shp H) : fi (hpf H 68 4 (.int v)) 68 4 = v := fi_hpf_eq (g_68_4 h)
theorem sf_68_5 {H : List AC} {v : Int32} (h : Shp H) : Shp (hpf H 68 5 (.int v)) := shp_hpf (ci := 12) h rfl
theorem fe_68_5 {H : List AC} {v : Int32} (h : Shp H) : fi (hpf H 68 5 (.int v)) 68 5 = v := fi_hpf_eq (g_68_5 h)
theorem sf_68_6 {H : List AC} {v : Int32} (h : Shp H) : Shp (hpf H 68 6 (.int v)) := shp_hpf (ci := 12) h rfl
theorem fe_68_6 {H : List AC} {v : Int32} (h : Shp H) : fi (hpf H 68 6 (.int v)) 68 6 = v := fi_hpf_eq (g_68_6 h)
theorem sf_68_7 {H : List AC} {v : Int32} (h : Shp H) : Shp (hpf H 68 7 (.int v)) := shp_hpf (ci := 12) h rfl
theorem fe_68_7 {H : List AC} {v : Int32} (h : Shp H) : fi (hpf H 68 7 (.int v)) 68 7 = v := fi_hpf_eq (g_68_7 h)
theorem sf_68_8 {H : List AC} {v : Int32} (h : Shp H) : Shp (hpf H 68 8 (.int v)) := shp_hpf (ci := 12) h rfl
theorem fe_68_8 {H : List AC} {v : Int32} (h : Shp H) : fi (hpf H 68 8 (.int v)) 68 8 = v := fi_hpf_eq (g_68_8 h)
theorem sf_68_9 {H : List AC} {v : Int32} (h : Shp H) : Shp (hpf H 68 9 (.int v)) := shp_hpf (ci := 12) h rfl
theorem fe_68_9 {H : List AC} {v : Int32} (h : Shp H) : fi (hpf H 68 9 (.int v)) 68 9 = v := fi_hpf_eq (g_68_9 h)
theorem sf_68_10 {H : List AC} {v : Int32} (h : Shp H) : Shp (hpf H 68 10 (.int v)) := shp_hpf (ci := 12) h rfl
theorem fe_68_10 {H : List AC} {v : Int32} (h : Shp H) : fi (hpf H 68 10 (.int v)) 68 10 = v := fi_hpf_eq (g_68_10 h)
theorem sf_68_11 {H : List AC} {v : Int32} (h : Shp H) : Shp (hpf H 68 11 (.int v)) := shp_hpf (ci := 12) h rfl
theorem fe_68_11 {H : List AC} {v : Int32} (h : Shp H) : fi (hpf H 68 11 (.int v)) 68 11 = v := fi_hpf_eq (g_68_11 h)
theorem sf_68_13 {H : List AC} {v : Int32} (h : Shp H) : Shp (hpf H 68 13 (.int v)) := shp_hpf (ci := 12) h rfl
theorem fe_68_13 {H : List AC} {v : Int32} (h : Shp H) : fi (hpf H 68 13 (.int v)) 68 13 = v := fi_hpf_eq (g_68_13 h)
theorem sf_68_14 {H : List AC} {v : Int32} (h : Shp H) : Shp (hpf H 68 14 (.int v)) := shp_hpf (ci := 12) h rfl
theorem fe_68_14 {H : List AC} {v : Int32} (h : Shp H) : fi (hpf H 68 14 (.int v)) 68 14 = v := fi_hpf_eq (g_68_14 h)
theorem sf_68_20 {H : List AC} {v : Int32} (h : Shp H) : Shp (hpf H 68 20 (.int v)) := shp_hpf (ci := 12) h rfl
theorem fe_68_20 {H : List AC} {v : Int32} (h : Shp H) : fi (hpf H 68 20 (.int v)) 68 20 = v := fi_hpf_eq (g_68_20 h)
theorem sf_68_21 {H : List AC} {v : Int32} (h : Shp H) : Shp (hpf H 68 21 (.int v)) := shp_hpf (ci := 12) h rfl
theorem fe_68_21 {H : List AC} {v : Int32} (h : Shp H) : fi (hpf H 68 21 (.int v)) 68 21 = v := fi_hpf_eq (g_68_21 h)
theorem sf_68_22 {H : List AC} {v : Int32} (h : Shp H) : Shp (hpf H 68 22 (.int v)) := shp_hpf (ci := 12) h rfl
theorem fe_68_22 {H : List AC} {v : Int32} (h : Shp H) : fi (hpf H 68 22 (.int v)) 68 22 = v := fi_hpf_eq (g_68_22 h)
theorem sf_68_28 {H : List AC} {v : Int32} (h : Shp H) : Shp (hpf H 68 28 (.int v)) := shp_hpf (ci := 12) h rfl
theorem fe_68_28 {H : List AC} {v : Int32} (h : Shp H) : fi (hpf H 68 28 (.int v)) 68 28 = v := fi_hpf_eq (g_68_28 h)
theorem sf_68_29 {H : List AC} {v : Int32} (h : Shp H) : Shp (hpf H 68 29 (.int v)) := shp_hpf (ci := 12) h rfl
theorem fe_68_29 {H : List AC} {v : Int32} (h : Shp H) : fi (hpf H 68 29 (.int v)) 68 29 = v := fi_hpf_eq (g_68_29 h)
theorem sf_68_30 {H : List AC} {v : Int32} (h : Shp H) : Shp (hpf H 68 30 (.int v)) := shp_hpf (ci := 12) h rfl
theorem fe_68_30 {H : List AC} {v : Int32} (h : Shp H) : fi (hpf H 68 30 (.int v)) 68 30 = v := fi_hpf_eq (g_68_30 h)
theorem sf_68_31 {H : List AC} {v : Int32} (h : Shp H) : Shp (hpf H 68 31 (.int v)) := shp_hpf (ci := 12) h rfl
theorem fe_68_31 {H : List AC} {v : Int32} (h : Shp H) : fi (hpf H 68 31 (.int v)) 68 31 = v := fi_hpf_eq (g_68_31 h)
theorem sf_68_32 {H : List AC} {v : Int32} (h : Shp H) : Shp (hpf H 68 32 (.int v)) := shp_hpf (ci := 12) h rfl
theorem fe_68_32 {H : List AC} {v : Int32} (h : Shp H) : fi (hpf H 68 32 (.int v)) 68 32 = v := fi_hpf_eq (g_68_32 h)
theorem sf_68_35 {H : List AC} {v : Int64} (h : Shp H) : Shp (hpf H 68 35 (.long v)) := shp_hpfl (ci := 12) h rfl
theorem fe_68_35 {H : List AC} {v : Int64} (h : Shp H) : fl (hpf H 68 35 (.long v)) 68 35 = v := fl_hpf_eq (g_68_35 h)
theorem sf_68_36 {H : List AC} {v : Int64} (h : Shp H) : Shp (hpf H 68 36 (.long v)) := shp_hpfl (ci := 12) h rfl
theorem fe_68_36 {H : List AC} {v : Int64} (h : Shp H) : fl (hpf H 68 36 (.long v)) 68 36 = v := fl_hpf_eq (g_68_36 h)
theorem sf_68_37 {H : List AC} {v : Int64} (h : Shp H) : Shp (hpf H 68 37 (.long v)) := shp_hpfl (ci := 12) h rfl
theorem fe_68_37 {H : List AC} {v : Int64} (h : Shp H) : fl (hpf H 68 37 (.long v)) 68 37 = v := fl_hpf_eq (g_68_37 h)
theorem sf_68_38 {H : List AC} {v : Int64} (h : Shp H) : Shp (hpf H 68 38 (.long v)) := shp_hpfl (ci := 12) h rfl
theorem fe_68_38 {H : List AC} {v : Int64} (h : Shp H) : fl (hpf H 68 38 (.long v)) 68 38 = v := fl_hpf_eq (g_68_38 h)
theorem sf_68_39 {H : List AC} {v : Int32} (h : Shp H) : Shp (hpf H 68 39 (.int v)) := shp_hpf (ci := 12) h rfl
theorem fe_68_39 {H : List AC} {v : Int32} (h : Shp H) : fi (hpf H 68 39 (.int v)) 68 39 = v := fi_hpf_eq (g_68_39 h)
theorem sa_69 {H : List AC} {xs : List Int32} (h : Shp H) (hl : xs.length = 900) : Shp (hpa H 69 xs) := shp_hpa h (by rw [hl, gn_69 h])
theorem ae_69 {H : List AC} {xs : List Int32} (h : Shp H) : ar (hpa H 69 xs) 69 = xs := ar_hpa_eq (ga_69 h)
theorem sa_70 {H : List AC} {xs : List Int32} (h : Shp H) (hl : xs.length = 8) : Shp (hpa H 70 xs) := shp_hpa h (by rw [hl, gn_70 h])
theorem ae_70 {H : List AC} {xs : List Int32} (h : Shp H) : ar (hpa H 70 xs) 70 = xs := ar_hpa_eq (ga_70 h)
theorem sa_71 {H : List AC} {xs : List Int32} (h : Shp H) (hl : xs.length = 211) : Shp (hpa H 71 xs) := shp_hpa h (by rw [hl, gn_71 h])
theorem ae_71 {H : List AC} {xs : List Int32} (h : Shp H) : ar (hpa H 71 xs) 71 = xs := ar_hpa_eq (ga_71 h)
theorem sa_72 {H : List AC} {xs : List Int32} (h : Shp H) (hl : xs.length = 211) : Shp (hpa H 72 xs) := shp_hpa h (by rw [hl, gn_72 h])
theorem ae_72 {H : List AC} {xs : List Int32} (h : Shp H) : ar (hpa H 72 xs) 72 = xs := ar_hpa_eq (ga_72 h)
theorem sa_73 {H : List AC} {xs : List Int32} (h : Shp H) (hl : xs.length = 10) : Shp (hpa H 73 xs) := shp_hpa h (by rw [hl, gn_73 h])
theorem ae_73 {H : List AC} {xs : List Int32} (h : Shp H) : ar (hpa H 73 xs) 73 = xs := ar_hpa_eq (ga_73 h)
theorem sa_74 {H : List AC} {xs : List Int32} (h : Shp H) (hl : xs.length = 160) : Shp (hpa H 74 xs) := shp_hpa h (by rw [hl, gn_74 h])
theorem ae_74 {H : List AC} {xs : List Int32} (h : Shp H) : ar (hpa H 74 xs) 74 = xs := ar_hpa_eq (ga_74 h)
theorem sa_75 {H : List AC} {xs : List Int32} (h : Shp H) (hl : xs.length = 30) : Shp (hpa H 75 xs) := shp_hpa h (by rw [hl, gn_75 h])
theorem ae_75 {H : List AC} {xs : List Int32} (h : Shp H) : ar (hpa H 75 xs) 75 = xs := ar_hpa_eq (ga_75 h)
theorem sa_76 {H : List AC} {xs : List Int32} (h : Shp H) (hl : xs.length = 7) : Shp (hpa H 76 xs) := shp_hpa h (by rw [hl, gn_76 h])
theorem ae_76 {H : List AC} {xs : List Int32} (h : Shp H) : ar (hpa H 76 xs) 76 = xs := ar_hpa_eq (ga_76 h)
theorem sa_77 {H : List AC} {xs : List Int32} (h : Shp H) (hl : xs.length = 10) : Shp (hpa H 77 xs) := shp_hpa h (by rw [hl, gn_77 h])
theorem ae_77 {H : List AC} {xs : List Int32} (h : Shp H) : ar (hpa H 77 xs) 77 = xs := ar_hpa_eq (ga_77 h)
theorem sa_78 {H : List AC} {xs : List Int32} (h : Shp H) (hl : xs.length = 10) : Shp (hpa H 78 xs) := shp_hpa h (by rw [hl, gn_78 h])
theorem ae_78 {H : List AC} {xs : List Int32} (h : Shp H) : ar (hpa H 78 xs) 78 = xs := ar_hpa_eq (ga_78 h)
theorem sa_79 {H : List AC} {xs : List Int32} (h : Shp H) (hl : xs.length = 21) : Shp (hpa H 79 xs) := shp_hpa h (by rw [hl, gn_79 h])
theorem ae_79 {H : List AC} {xs : List Int32} (h : Shp H) : ar (hpa H 79 xs) 79 = xs := ar_hpa_eq (ga_79 h)
theorem sa_80 {H : List AC} {xs : List Int32} (h : Shp H) (hl : xs.length = 147) : Shp (hpa H 80 xs) := shp_hpa h (by rw [hl, gn_80 h])
theorem ae_80 {H : List AC} {xs : List Int32} (h : Shp H) : ar (hpa H 80 xs) 80 = xs := ar_hpa_eq (ga_80 h)
theorem sa_81 {H : List AC} {xs : List Int32} (h : Shp H) (hl : xs.length = 64) : Shp (hpa H 81 xs) := shp_hpa h (by rw [hl, gn_81 h])
theorem ae_81 {H : List AC} {xs : List Int32} (h : Shp H) : ar (hpa H 81 xs) 81 = xs := ar_hpa_eq (ga_81 h)
theorem sa_82 {H : List AC} {xs : List Int32} (h : Shp H) (hl : xs.length = 16384) : Shp (hpa H 82 xs) := shp_hpa h (by rw [hl, gn_82 h])
theorem ae_82 {H : List AC} {xs : List Int32} (h : Shp H) : ar (hpa H 82 xs) 82 = xs := ar_hpa_eq (ga_82 h)
theorem kl_0 : (0 : Int32).toNatClampNeg = 0 := rfl
theorem jb_0_7 : inb 0 7 = true := by decide
theorem jb_0_8 : inb 0 8 = true := by decide
theorem jb_0_10 : inb 0 10 = true := by decide
theorem jb_0_21 : inb 0 21 = true := by decide
theorem jb_0_30 : inb 0 30 = true := by decide
theorem jb_0_64 : inb 0 64 = true := by decide
theorem jb_0_147 : inb 0 147 = true := by decide
theorem jb_0_160 : inb 0 160 = true := by decide
theorem jb_0_211 : inb 0 211 = true := by decide
theorem kl_1 : (1 : Int32).toNatClampNeg = 1 := rfl
theorem jb_1_7 : inb 1 7 = true := by decide
theorem jb_1_8 : inb 1 8 = true := by decide
theorem jb_1_10 : inb 1 10 = true := by decide
theorem jb_1_21 : inb 1 21 = true := by decide
theorem jb_1_30 : inb 1 30 = true := by decide
theorem jb_1_64 : inb 1 64 = true := by decide
theorem jb_1_147 : inb 1 147 = true := by decide
theorem jb_1_160 : inb 1 160 = true := by decide
theorem jb_1_211 : inb 1 211 = true := by decide
theorem kl_2 : (2 : Int32).toNatClampNeg = 2 := rfl
theorem jb_2_7 : inb 2 7 = true := by decide
theorem jb_2_8 : inb 2 8 = true := by decide
theorem jb_2_10 : inb 2 10 = true := by decide
theorem jb_2_21 : inb 2 21 = true := by decide
theorem jb_2_30 : inb 2 30 = true := by decide
theorem jb_2_64 : inb 2 64 = true := by decide
theorem jb_2_147 : inb 2 147 = true := by decide
theorem jb_2_160 : inb 2 160 = true := by decide
theorem jb_2_211 : inb 2 211 = true := by decide
theorem kl_3 : (3 : Int32).toNatClampNeg = 3 := rfl
theorem jb_3_7 : inb 3 7 = true := by decide
theorem jb_3_8 : inb 3 8 = true := by decide
theorem jb_3_10 : inb 3 10 = true := by decide
theorem jb_3_21 : inb 3 21 = true := by decide
theorem jb_3_30 : inb 3 30 = true := by decide
theorem jb_3_64 : inb 3 64 = true := by decide
theorem jb_3_147 : inb 3 147 = true := by decide
theorem jb_3_160 : inb 3 160 = true := by decide
theorem jb_3_211 : inb 3 211 = true := by decide
theorem kl_4 : (4 : Int32).toNatClampNeg = 4 := rfl
theorem jb_4_7 : inb 4 7 = true := by decide
theorem jb_4_8 : inb 4 8 = true := by decide
theorem jb_4_10 : inb 4 10 = true := by decide
theorem jb_4_21 : inb 4 21 = true := by decide
theorem jb_4_30 : inb 4 30 = true := by decide
theorem jb_4_64 : inb 4 64 = true := by decide
theorem jb_4_147 : inb 4 147 = true := by decide
theorem jb_4_160 : inb 4 160 = true := by decide
theorem jb_4_211 : inb 4 211 = true := by decide
theorem kl_5 : (5 : Int32).toNatClampNeg = 5 := rfl
theorem jb_5_7 : inb 5 7 = true := by decide
theorem jb_5_8 : inb 5 8 = true := by decide
theorem jb_5_10 : inb 5 10 = true := by decide
theorem jb_5_21 : inb 5 21 = true := by decide
theorem jb_5_30 : inb 5 30 = true := by decide
theorem jb_5_64 : inb 5 64 = true := by decide
theorem jb_5_147 : inb 5 147 = true := by decide
theorem jb_5_160 : inb 5 160 = true := by decide
theorem jb_5_211 : inb 5 211 = true := by decide
theorem kl_6 : (6 : Int32).toNatClampNeg = 6 := rfl
theorem jb_6_7 : inb 6 7 = true := by decide
theorem jb_6_8 : inb 6 8 = true := by decide
theorem jb_6_10 : inb 6 10 = true := by decide
theorem jb_6_21 : inb 6 21 = true := by decide
theorem jb_6_30 : inb 6 30 = true := by decide
theorem jb_6_64 : inb 6 64 = true := by decide
theorem jb_6_147 : inb 6 147 = true := by decide
theorem jb_6_160 : inb 6 160 = true := by decide
theorem jb_6_211 : inb 6 211 = true := by decide
theorem kl_7 : (7 : Int32).toNatClampNeg = 7 := rfl
theorem jb_7_8 : inb 7 8 = true := by decide
theorem jb_7_10 : inb 7 10 = true := by decide
theorem jb_7_21 : inb 7 21 = true := by decide
theorem jb_7_30 : inb 7 30 = true := by decide
theorem jb_7_64 : inb 7 64 = true := by decide
theorem jb_7_147 : inb 7 147 = true := by decide
theorem jb_7_160 : inb 7 160 = true := by decide
theorem jb_7_211 : inb 7 211 = true := by decide
theorem kl_8 : (8 : Int32).toNatClampNeg = 8 := rfl
theorem jb_8_10 : inb 8 10 = true := by decide
theorem jb_8_21 : inb 8 21 = true := by decide
theorem jb_8_30 : inb 8 30 = true := by decide
theorem jb_8_64 : inb 8 64 = true := by decide
theorem jb_8_147 : inb 8 147 = true := by decide
theorem jb_8_160 : inb 8 160 = true := by decide
theorem jb_8_211 : inb 8 211 = true := by decide
theorem kl_9 : (9 : Int32).toNatClampNeg = 9 := rfl
theorem jb_9_10 : inb 9 10 = true := by decide
theorem jb_9_21 : inb 9 21 = true := by decide
theorem jb_9_30 : inb 9 30 = true := by decide
theorem jb_9_64 : inb 9 64 = true := by decide
theorem jb_9_147 : inb 9 147 = true := by decide
theorem jb_9_160 : inb 9 160 = true := by decide
theorem jb_9_211 : inb 9 211 = true := by decide
theorem kl_10 : (10 : Int32).toNatClampNeg = 10 := rfl
theorem jb_10_21 : inb 10 21 = true := by decide
theorem jb_10_30 : inb 10 30 = true := by decide
theorem jb_10_64 : inb 10 64 = true := by decide
theorem jb_10_147 : inb 10 147 = true := by decide
theorem jb_10_160 : inb 10 160 = true := by decide
theorem jb_10_211 : inb 10 211 = true := by decide
theorem kl_11 : (11 : Int32).toNatClampNeg = 11 := rfl
theorem jb_11_21 : inb 11 21 = true := by decide
theorem jb_11_30 : inb 11 30 = true := by decide
theorem jb_11_64 : inb 11 64 = true := by decide
theorem jb_11_147 : inb 11 147 = true := by decide
theorem jb_11_160 : inb 11 160 = true := by decide
theorem jb_11_211 : inb 11 211 = true := by decide
theorem kl_12 : (12 : Int32).toNatClampNeg = 12 := rfl
theorem jb_12_21 : inb 12 21 = true := by decide
theorem jb_12_30 : inb 12 30 = true := by decide
theorem jb_12_64 : inb 12 64 = true := by decide
theorem jb_12_147 : inb 12 147 = true := by decide
theorem jb_12_160 : inb 12 160 = true := by decide
theorem jb_12_211 : inb 12 211 = true := by decide
