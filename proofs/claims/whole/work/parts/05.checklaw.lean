theorem chkL_0 : ((List.range 40).drop 0).all (chkK 264) = true := by decide +kernel
theorem chkL_1 : ((List.range 80).drop 40).all (chkK 264) = true := by decide +kernel
theorem chkL_2 : ((List.range 120).drop 80).all (chkK 264) = true := by decide +kernel
theorem chkL_3 : ((List.range 160).drop 120).all (chkK 264) = true := by decide +kernel
theorem chkL_4 : ((List.range 200).drop 160).all (chkK 264) = true := by decide +kernel
theorem chkL_5 : ((List.range 240).drop 200).all (chkK 264) = true := by decide +kernel
theorem chkL_6 : ((List.range 280).drop 240).all (chkK 264) = true := by decide +kernel
theorem chkL_7 : ((List.range 320).drop 280).all (chkK 264) = true := by decide +kernel
theorem chkL_8 : ((List.range 360).drop 320).all (chkK 264) = true := by decide +kernel
theorem chkL_9 : ((List.range 400).drop 360).all (chkK 264) = true := by decide +kernel
theorem chkL_10 : ((List.range 440).drop 400).all (chkK 264) = true := by decide +kernel
theorem chkL_11 : ((List.range 480).drop 440).all (chkK 264) = true := by decide +kernel
theorem chkL_12 : ((List.range 520).drop 480).all (chkK 264) = true := by decide +kernel
theorem chkL_13 : ((List.range 560).drop 520).all (chkK 264) = true := by decide +kernel
theorem chkL_14 : ((List.range 600).drop 560).all (chkK 264) = true := by decide +kernel
theorem chkL_15 : ((List.range 640).drop 600).all (chkK 264) = true := by decide +kernel
theorem chkL_16 : ((List.range 680).drop 640).all (chkK 264) = true := by decide +kernel
theorem chkL_17 : ((List.range 720).drop 680).all (chkK 264) = true := by decide +kernel
theorem chkL_18 : ((List.range 760).drop 720).all (chkK 264) = true := by decide +kernel
theorem chkL_19 : ((List.range 777).drop 760).all (chkK 264) = true := by decide +kernel
theorem chk_law : ∀ k, k < 777 → chkK 264 k = true := by
  intro k hk
  have key : ∀ a b, ((List.range b).drop a).all (chkK 264) = true → a ≤ k → k < b → chkK 264 k = true := by
    intro a b h h1 h2
    refine List.all_eq_true.mp h k ?_
    have : ((List.range b).drop a)[k - a]? = some k := by
      rw [List.getElem?_drop, List.getElem?_range (by omega)]
      congr 1
      omega
    exact List.mem_of_getElem? this
  by_cases h0 : k < 40
  · exact key 0 40 chkL_0 (by omega) h0
  by_cases h1 : k < 80
  · exact key 40 80 chkL_1 (by omega) h1
  by_cases h2 : k < 120
  · exact key 80 120 chkL_2 (by omega) h2
  by_cases h3 : k < 160
  · exact key 120 160 chkL_3 (by omega) h3
  by_cases h4 : k < 200
  · exact key 160 200 chkL_4 (by omega) h4
  by_cases h5 : k < 240
  · exact key 200 240 chkL_5 (by omega) h5
  by_cases h6 : k < 280
  · exact key 240 280 chkL_6 (by omega) h6
  by_cases h7 : k < 320
  · exact key 280 320 chkL_7 (by omega) h7
  by_cases h8 : k < 360
  · exact key 320 360 chkL_8 (by omega) h8
  by_cases h9 : k < 400
  · exact key 360 400 chkL_9 (by omega) h9
  by_cases h10 : k < 440
  · exact key 400 440 chkL_10 (by omega) h10
  by_cases h11 : k < 480
  · exact key 440 480 chkL_11 (by omega) h11
  by_cases h12 : k < 520
  · exact key 480 520 chkL_12 (by omega) h12
  by_cases h13 : k < 560
  · exact key 520 560 chkL_13 (by omega) h13
  by_cases h14 : k < 600
  · exact key 560 600 chkL_14 (by omega) h14
  by_cases h15 : k < 640
  · exact key 600 640 chkL_15 (by omega) h15
  by_cases h16 : k < 680
  · exact key 640 680 chkL_16 (by omega) h16
  by_cases h17 : k < 720
  · exact key 680 720 chkL_17 (by omega) h17
  by_cases h18 : k < 760
  · exact key 720 760 chkL_18 (by omega) h18
  by_cases h19 : k < 777
  · exact key 760 777 chkL_19 (by omega) h19
  omega
theorem mE_law_len : (mE 264).length = 777 := by decide +kernel
theorem chk_at {m k : Nat} {e : XE} (hm : m < 265) (he : (mE m)[k]? = some e) : decode (mC m) e.1 = .ok (e.2.2.1, e.2.1) ∧ okI m (mE m) k e = true := by
  have hk : k < (mE m).length := (List.getElem?_eq_some_iff.mp he).1
  have h : chkK m k = true := by
    by_cases hl : m < 264
    · exact List.all_eq_true.mp (chk_all m hl) k (List.mem_range.mpr hk)
    · have hm2 : m = 264 := by omega
      subst hm2
      exact chk_law k (by rw [← mE_law_len]; exact hk)
  unfold chkK at h
  rw [he] at h
  simpa using h
