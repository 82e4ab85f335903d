theorem xf_mt {w : Cond} (K : Nat) (h : tables_1[K]? = some w) (g : goodWord w = true) : w ∈ xf_GW := List.mem_filter.mpr ⟨List.mem_append_right _ (List.mem_of_getElem? h), g⟩
theorem xf_ms {w : Cond} (K : Nat) (h : (k2_sels lw_privs)[K]? = some w) (g : goodWord w = true) : w ∈ xf_GW := List.mem_filter.mpr ⟨List.mem_append_left _ (List.mem_of_getElem? h), g⟩
theorem xf_mn {w : Cond} (K : Nat) (h : tables_1[K]? = some w) (g : xf_nest w = true) : w ∈ xf_NL := List.mem_filter.mpr ⟨List.mem_append_right _ (List.mem_of_getElem? h), g⟩
theorem xin_SC : ∀ w ∈ u_ws xnR_SC xnT_SC 4, w ∈ xf_GW := by
  intro w hw
  obtain ⟨k, hk, rfl⟩ := List.mem_map.mp hw
  have hk := List.mem_range.mp hk
  have h9 : k = 0 ∨ k = 1 ∨ k = 2 ∨ k = 3 := by omega
  rcases h9 with rfl | rfl | rfl | rfl
  · exact xf_mt 258 (by decide +kernel) (by decide +kernel)
  · exact xf_mt 260 (by decide +kernel) (by decide +kernel)
  · exact xf_mt 262 (by decide +kernel) (by decide +kernel)
  · exact xf_mt 264 (by decide +kernel) (by decide +kernel)
theorem xin_TA : ∀ w ∈ u_ws xnR_TA xnT_TA 6, w ∈ xf_GW := by
  intro w hw
  obtain ⟨k, hk, rfl⟩ := List.mem_map.mp hw
  have hk := List.mem_range.mp hk
  have h9 : k = 0 ∨ k = 1 ∨ k = 2 ∨ k = 3 ∨ k = 4 ∨ k = 5 := by omega
  rcases h9 with rfl | rfl | rfl | rfl | rfl | rfl
  · exact xf_mt 35 (by decide +kernel) (by decide +kernel)
  · exact xf_mt 37 (by decide +kernel) (by decide +kernel)
  · exact xf_mt 39 (by decide +kernel) (by decide +kernel)
  · exact xf_mt 41 (by decide +kernel) (by decide +kernel)
  · exact xf_mt 43 (by decide +kernel) (by decide +kernel)
  · exact xf_mt 45 (by decide +kernel) (by decide +kernel)
theorem xin_ST : ∀ w ∈ u_ws xnR_ST xnT_ST 14, w ∈ xf_GW := by
  intro w hw
  obtain ⟨k, hk, rfl⟩ := List.mem_map.mp hw
  have hk := List.mem_range.mp hk
  have h9 : k = 0 ∨ k = 1 ∨ k = 2 ∨ k = 3 ∨ k = 4 ∨ k = 5 ∨ k = 6 ∨ k = 7 ∨ k = 8 ∨ k = 9 ∨ k = 10 ∨ k = 11 ∨ k = 12 ∨ k = 13 := by omega
  rcases h9 with rfl | rfl | rfl | rfl | rfl | rfl | rfl | rfl | rfl | rfl | rfl | rfl | rfl | rfl
  · exact xf_mt 101 (by decide +kernel) (by decide +kernel)
  · exact xf_mt 103 (by decide +kernel) (by decide +kernel)
  · exact xf_mt 105 (by decide +kernel) (by decide +kernel)
  · exact xf_mt 107 (by decide +kernel) (by decide +kernel)
  · exact xf_mt 109 (by decide +kernel) (by decide +kernel)
  · exact xf_mt 111 (by decide +kernel) (by decide +kernel)
  · exact xf_mt 113 (by decide +kernel) (by decide +kernel)
  · exact xf_mt 115 (by decide +kernel) (by decide +kernel)
  · exact xf_mt 117 (by decide +kernel) (by decide +kernel)
  · exact xf_mt 119 (by decide +kernel) (by decide +kernel)
  · exact xf_mt 121 (by decide +kernel) (by decide +kernel)
  · exact xf_mt 123 (by decide +kernel) (by decide +kernel)
  · exact xf_mt 125 (by decide +kernel) (by decide +kernel)
  · exact xf_mt 127 (by decide +kernel) (by decide +kernel)
theorem xin_WR : ∀ w ∈ u_ws xnR_WR xnT_WR 13, w ∈ xf_GW := by
  intro w hw
  obtain ⟨k, hk, rfl⟩ := List.mem_map.mp hw
  have hk := List.mem_range.mp hk
  have h9 : k = 0 ∨ k = 1 ∨ k = 2 ∨ k = 3 ∨ k = 4 ∨ k = 5 ∨ k = 6 ∨ k = 7 ∨ k = 8 ∨ k = 9 ∨ k = 10 ∨ k = 11 ∨ k = 12 := by omega
  rcases h9 with rfl | rfl | rfl | rfl | rfl | rfl | rfl | rfl | rfl | rfl | rfl | rfl | rfl
  · exact xf_mt 183 (by decide +kernel) (by decide +kernel)
  · exact xf_mt 185 (by decide +kernel) (by decide +kernel)
  · exact xf_mt 187 (by decide +kernel) (by decide +kernel)
  · exact xf_mt 189 (by decide +kernel) (by decide +kernel)
  · exact xf_mt 191 (by decide +kernel) (by decide +kernel)
  · exact xf_mt 193 (by decide +kernel) (by decide +kernel)
  · exact xf_mt 195 (by decide +kernel) (by decide +kernel)
  · exact xf_mt 197 (by decide +kernel) (by decide +kernel)
  · exact xf_mt 199 (by decide +kernel) (by decide +kernel)
  · exact xf_mt 201 (by decide +kernel) (by decide +kernel)
  · exact xf_mt 203 (by decide +kernel) (by decide +kernel)
  · exact xf_mt 205 (by decide +kernel) (by decide +kernel)
  · exact xf_mt 207 (by decide +kernel) (by decide +kernel)
theorem xin_PA : ∀ w ∈ u_ws xnR_PA xnT_PA 7, w ∈ xf_GW := by
  intro w hw
  obtain ⟨k, hk, rfl⟩ := List.mem_map.mp hw
  have hk := List.mem_range.mp hk
  have h9 : k = 0 ∨ k = 1 ∨ k = 2 ∨ k = 3 ∨ k = 4 ∨ k = 5 ∨ k = 6 := by omega
  rcases h9 with rfl | rfl | rfl | rfl | rfl | rfl | rfl
  · exact xf_mt 153 (by decide +kernel) (by decide +kernel)
  · exact xf_mt 155 (by decide +kernel) (by decide +kernel)
  · exact xf_mt 157 (by decide +kernel) (by decide +kernel)
  · exact xf_mt 159 (by decide +kernel) (by decide +kernel)
  · exact xf_mt 161 (by decide +kernel) (by decide +kernel)
  · exact xf_mt 163 (by decide +kernel) (by decide +kernel)
  · exact xf_mt 165 (by decide +kernel) (by decide +kernel)
theorem xin_RD : ∀ w ∈ u_ws xnR_RD xnT_RD 11, w ∈ xf_GW := by
  intro w hw
  obtain ⟨k, hk, rfl⟩ := List.mem_map.mp hw
  have hk := List.mem_range.mp hk
  have h9 : k = 0 ∨ k = 1 ∨ k = 2 ∨ k = 3 ∨ k = 4 ∨ k = 5 ∨ k = 6 ∨ k = 7 ∨ k = 8 ∨ k = 9 ∨ k = 10 := by omega
  rcases h9 with rfl | rfl | rfl | rfl | rfl | rfl | rfl | rfl | rfl | rfl | rfl
  · exact xf_mt 231 (by decide +kernel) (by decide +kernel)
  · exact xf_mt 233 (by decide +kernel) (by decide +kernel)
  · exact xf_mt 235 (by decide +kernel) (by decide +kernel)
  · exact xf_mt 237 (by decide +kernel) (by decide +kernel)
  · exact xf_mt 239 (by decide +kernel) (by decide +kernel)
  · exact xf_mt 241 (by decide +kernel) (by decide +kernel)
  · exact xf_mt 243 (by decide +kernel) (by decide +kernel)
  · exact xf_mt 245 (by decide +kernel) (by decide +kernel)
  · exact xf_mt 247 (by decide +kernel) (by decide +kernel)
  · exact xf_mt 249 (by decide +kernel) (by decide +kernel)
  · exact xf_mt 251 (by decide +kernel) (by decide +kernel)
theorem xin_MO : ∀ w ∈ u_ws xnR_MO xnT_MO 38, w ∈ xf_GW := by
  intro w hw
  obtain ⟨k, hk, rfl⟩ := List.mem_map.mp hw
  have hk := List.mem_range.mp hk
  have h9 : k = 0 ∨ k = 1 ∨ k = 2 ∨ k = 3 ∨ k = 4 ∨ k = 5 ∨ k = 6 ∨ k = 7 ∨ k = 8 ∨ k = 9 ∨ k = 10 ∨ k = 11 ∨ k = 12 ∨ k = 13 ∨ k = 14 ∨ k = 15 ∨ k = 16 ∨ k = 17 ∨ k = 18 ∨ k = 19 ∨ k = 20 ∨ k = 21 ∨ k = 22 ∨ k = 23 ∨ k = 24 ∨ k = 25 ∨ k = 26 ∨ k = 27 ∨ k = 28 ∨ k = 29 ∨ k = 30 ∨ k = 31 ∨ k = 32 ∨ k = 33 ∨ k = 34 ∨ k = 35 ∨ k = 36 ∨ k = 37 := by omega
  rcases h9 with rfl | rfl | rfl | rfl | rfl | rfl | rfl | rfl | rfl | rfl | rfl | rfl | rfl | rfl | rfl | rfl | rfl | rfl | rfl | rfl | rfl | rfl | rfl | rfl | rfl | rfl | rfl | rfl | rfl | rfl | rfl | rfl | rfl | rfl | rfl | rfl | rfl | rfl
  · exact xf_mt 581 (by decide +kernel) (by decide +kernel)
  · exact xf_mt 583 (by decide +kernel) (by decide +kernel)
  · exact xf_mt 585 (by decide +kernel) (by decide +kernel)
  · exact xf_mt 587 (by decide +kernel) (by decide +kernel)
  · exact xf_mt 589 (by decide +kernel) (by decide +kernel)
  · exact xf_mt 591 (by decide +kernel) (by decide +kernel)
  · exact xf_mt 593 (by decide +kernel) (by decide +kernel)
  · exact xf_mt 595 (by decide +kernel) (by decide +kernel)
  · exact xf_mt 597 (by decide +kernel) (by decide +kernel)
  · exact xf_mt 599 (by decide +kernel) (by decide +kernel)
  · exact xf_mt 601 (by decide +kernel) (by decide +kernel)
  · exact xf_mt 603 (by decide +kernel) (by decide +kernel)
  · exact xf_mt 605 (by decide +kernel) (by decide +kernel)
  · exact xf_mt 607 (by decide +kernel) (by decide +kernel)
  · exact xf_mt 609 (by decide +kernel) (by decide +kernel)
  · exact xf_mt 611 (by decide +kernel) (by decide +kernel)
  · exact xf_mt 613 (by decide +kernel) (by decide +kernel)
  · exact xf_mt 615 (by decide +kernel) (by decide +kernel)
  · exact xf_mt 617 (by decide +kernel) (by decide +kernel)
  · exact xf_mt 619 (by decide +kernel) (by decide +kernel)
  · exact xf_mt 621 (by decide +kernel) (by decide +kernel)
  · exact xf_mt 623 (by decide +kernel) (by decide +kernel)
  · exact xf_mt 625 (by decide +kernel) (by decide +kernel)
  · exact xf_mt 627 (by decide +kernel) (by decide +kernel)
  · exact xf_mt 629 (by decide +kernel) (by decide +kernel)
  · exact xf_mt 631 (by decide +kernel) (by decide +kernel)
  · exact xf_mt 633 (by decide +kernel) (by decide +kernel)
  · exact xf_mt 635 (by decide +kernel) (by decide +kernel)
  · exact xf_mt 637 (by decide +kernel) (by decide +kernel)
  · exact xf_mt 639 (by decide +kernel) (by decide +kernel)
  · exact xf_mt 641 (by decide +kernel) (by decide +kernel)
  · exact xf_mt 643 (by decide +kernel) (by decide +kernel)
  · exact xf_mt 645 (by decide +kernel) (by decide +kernel)
  · exact xf_mt 647 (by decide +kernel) (by decide +kernel)
  · exact xf_mt 649 (by decide +kernel) (by decide +kernel)
  · exact xf_mt 651 (by decide +kernel) (by decide +kernel)
  · exact xf_mt 653 (by decide +kernel) (by decide +kernel)
  · exact xf_mt 655 (by decide +kernel) (by decide +kernel)
theorem xk_SC_9 : Cond.methodLinkNest xnR_SC 9 xny_TA_init "SteppedCache" ∈ xf_NL := xf_mn 19 (by decide +kernel) (by decide +kernel)
theorem xk_SC_10 : Cond.fieldLink xnR_SC 10 (xnT_SC 0).1 (xnT_SC 0).2.1 (xnT_SC 0).2.2.1 ∈ xf_GW := xf_mt 254 (by decide +kernel) (by decide +kernel)
theorem xk_SC_18 : Cond.methodLink xnR_SC 18 xny_SC_isWithin ∈ xf_GW := xf_mt 50 (by decide +kernel) (by decide +kernel)
theorem xk_SC_22 : Cond.methodLink xnR_SC 22 xny_ST_init ∈ xf_GW := xf_mt 53 (by decide +kernel) (by decide +kernel)
theorem xk_SC_25 : Cond.fieldLink xnR_SC 25 (xnT_SC 1).1 (xnT_SC 1).2.1 (xnT_SC 1).2.2.1 ∈ xf_GW := xf_mt 255 (by decide +kernel) (by decide +kernel)
theorem xk_SC_31 : Cond.methodLink xnR_SC 31 xny_WR_init ∈ xf_GW := xf_mt 134 (by decide +kernel) (by decide +kernel)
theorem xk_SC_34 : Cond.fieldLink xnR_SC 34 (xnT_SC 2).1 (xnT_SC 2).2.1 (xnT_SC 2).2.2.1 ∈ xf_GW := xf_mt 256 (by decide +kernel) (by decide +kernel)
theorem xk_SC_40 : Cond.fieldLink xnR_SC 40 (xnT_SC 3).1 (xnT_SC 3).2.1 (xnT_SC 3).2.2.1 ∈ xf_GW := xf_mt 257 (by decide +kernel) (by decide +kernel)
theorem xk_SC_44 : Cond.methodLink xnR_SC 44 xny_RD_init ∈ xf_GW := xf_mt 213 (by decide +kernel) (by decide +kernel)
theorem xk_SC_47 : Cond.methodLink xnR_SC 47 xny_WR_isUnderWay ∈ xf_GW := xf_mt 271 (by decide +kernel) (by decide +kernel)
theorem xk_SC_51 : Cond.methodLink xnR_SC 51 xny_WR_begin ∈ xf_GW := xf_mt 275 (by decide +kernel) (by decide +kernel)
theorem xk_SC_55 : Cond.methodLink xnR_SC 55 xny_WR_goOn ∈ xf_GW := xf_mt 283 (by decide +kernel) (by decide +kernel)
theorem xk_SC_58 : Cond.fieldLink xnR_SC 58 (xnT_WR 3).1 (xnT_WR 3).2.1 (xnT_WR 3).2.2.1 ∈ xf_GW := xf_mt 172 (by decide +kernel) (by decide +kernel)
theorem xk_SC_62 : Cond.methodLink xnR_SC 62 xny_SC_isReader ∈ xf_GW := xf_mt 422 (by decide +kernel) (by decide +kernel)
theorem xk_SC_66 : Cond.methodLink xnR_SC 66 xny_RD_isUnderWay ∈ xf_GW := xf_mt 425 (by decide +kernel) (by decide +kernel)
theorem xk_SC_67 : Cond.methodLink xnR_SC 67 xny_RD_begin ∈ xf_GW := xf_mt 430 (by decide +kernel) (by decide +kernel)
theorem xk_SC_70 : Cond.methodLink xnR_SC 70 xny_RD_goOn ∈ xf_GW := xf_mt 438 (by decide +kernel) (by decide +kernel)
theorem xk_SC_71 : Cond.fieldLink xnR_SC 71 (xnT_RD 3).1 (xnT_RD 3).2.1 (xnT_RD 3).2.2.1 ∈ xf_GW := xf_mt 221 (by decide +kernel) (by decide +kernel)
theorem xk_SC_74 : Cond.methodLink xnR_SC 74 xny_SC_isHit ∈ xf_GW := xf_mt 484 (by decide +kernel) (by decide +kernel)
theorem xk_SC_77 : Cond.fieldLink xnR_SC 77 (xnT_RD 4).1 (xnT_RD 4).2.1 (xnT_RD 4).2.2.1 ∈ xf_GW := xf_mt 223 (by decide +kernel) (by decide +kernel)
theorem xk_SC_80 : Cond.fieldLink xnR_SC 80 (xnT_RD 5).1 (xnT_RD 5).2.1 (xnT_RD 5).2.2.1 ∈ xf_GW := xf_mt 225 (by decide +kernel) (by decide +kernel)
theorem xk_SC_83 : Cond.fieldLink xnR_SC 83 (xnT_ST 12).1 (xnT_ST 12).2.1 (xnT_ST 12).2.2.1 ∈ xf_GW := xf_mt 98 (by decide +kernel) (by decide +kernel)
theorem xk_SC_86 : Cond.methodLink xnR_SC 86 xny_ST_find ∈ xf_GW := xf_mt 500 (by decide +kernel) (by decide +kernel)
theorem xk_SC_90 : Cond.fieldLink xnR_SC 90 (xnT_ST 3).1 (xnT_ST 3).2.1 (xnT_ST 3).2.2.1 ∈ xf_GW := xf_mt 70 (by decide +kernel) (by decide +kernel)
theorem xk_SC_94 : Cond.methodLink xnR_SC 94 xny_SC_isUsedItem ∈ xf_GW := xf_mt 512 (by decide +kernel) (by decide +kernel)
theorem xk_SC_97 : Cond.fieldLink xnR_SC 97 (xnT_ST 4).1 (xnT_ST 4).2.1 (xnT_ST 4).2.2.1 ∈ xf_GW := xf_mt 73 (by decide +kernel) (by decide +kernel)
theorem xk_SC_100 : Cond.fieldLink xnR_SC 100 (xnT_ST 5).1 (xnT_ST 5).2.1 (xnT_ST 5).2.2.1 ∈ xf_GW := xf_mt 78 (by decide +kernel) (by decide +kernel)
theorem xk_SC_103 : Cond.fieldLink xnR_SC 103 (xnT_ST 6).1 (xnT_ST 6).2.1 (xnT_ST 6).2.2.1 ∈ xf_GW := xf_mt 82 (by decide +kernel) (by decide +kernel)
theorem xk_SC_106 : Cond.fieldLink xnR_SC 106 (xnT_ST 7).1 (xnT_ST 7).2.1 (xnT_ST 7).2.2.1 ∈ xf_GW := xf_mt 86 (by decide +kernel) (by decide +kernel)
theorem xk_SC_109 : Cond.fieldLink xnR_SC 109 (xnT_ST 8).1 (xnT_ST 8).2.1 (xnT_ST 8).2.2.1 ∈ xf_GW := xf_mt 90 (by decide +kernel) (by decide +kernel)
theorem xk_SC_113 : Cond.fieldLink xnR_SC 113 (xnT_ST 10).1 (xnT_ST 10).2.1 (xnT_ST 10).2.2.1 ∈ xf_GW := xf_mt 94 (by decide +kernel) (by decide +kernel)
theorem xk_SC_116 : Cond.methodLink xnR_SC 116 xny_SC_firstBucket ∈ xf_GW := xf_mt 316 (by decide +kernel) (by decide +kernel)
theorem xk_SC_119 : Cond.methodLink xnR_SC 119 xny_SC_secondBucket ∈ xf_GW := xf_mt 528 (by decide +kernel) (by decide +kernel)
theorem xk_SC_122 : Cond.methodLink xnR_SC 122 xny_SC_tagOf ∈ xf_GW := xf_mt 320 (by decide +kernel) (by decide +kernel)
theorem xk_SC_125 : Cond.methodLink xnR_SC 125 xny_SC_stripeOf ∈ xf_GW := xf_mt 529 (by decide +kernel) (by decide +kernel)
theorem xk_SC_128 : Cond.fieldLink xnR_SC 128 (xnT_ST 11).1 (xnT_ST 11).2.1 (xnT_ST 11).2.2.1 ∈ xf_GW := xf_mt 96 (by decide +kernel) (by decide +kernel)
theorem xk_SC_131 : Cond.fieldLink xnR_SC 131 (xnT_TA 0).1 (xnT_TA 0).2.1 (xnT_TA 0).2.2.1 ∈ xf_GW := xf_mt 24 (by decide +kernel) (by decide +kernel)
theorem xk_SC_134 : Cond.fieldLink xnR_SC 134 (xnT_TA 1).1 (xnT_TA 1).2.1 (xnT_TA 1).2.2.1 ∈ xf_GW := xf_mt 26 (by decide +kernel) (by decide +kernel)
theorem xk_SC_137 : Cond.fieldLink xnR_SC 137 (xnT_TA 2).1 (xnT_TA 2).2.1 (xnT_TA 2).2.2.1 ∈ xf_GW := xf_mt 28 (by decide +kernel) (by decide +kernel)
theorem xk_SC_140 : Cond.fieldLink xnR_SC 140 (xnT_TA 3).1 (xnT_TA 3).2.1 (xnT_TA 3).2.2.1 ∈ xf_GW := xf_mt 30 (by decide +kernel) (by decide +kernel)
theorem xk_SC_143 : Cond.fieldLink xnR_SC 143 (xnT_TA 4).1 (xnT_TA 4).2.1 (xnT_TA 4).2.2.1 ∈ xf_GW := xf_mt 32 (by decide +kernel) (by decide +kernel)
theorem xk_SC_146 : Cond.fieldLink xnR_SC 146 (xnT_TA 5).1 (xnT_TA 5).2.1 (xnT_TA 5).2.2.1 ∈ xf_GW := xf_mt 34 (by decide +kernel) (by decide +kernel)
theorem xk_SC_149 : Cond.fieldLink xnR_SC 149 (xnT_WR 4).1 (xnT_WR 4).2.1 (xnT_WR 4).2.2.1 ∈ xf_GW := xf_mt 174 (by decide +kernel) (by decide +kernel)
theorem xk_SC_152 : Cond.fieldLink xnR_SC 152 (xnT_ST 13).1 (xnT_ST 13).2.1 (xnT_ST 13).2.2.1 ∈ xf_GW := xf_mt 100 (by decide +kernel) (by decide +kernel)
theorem xk_SC_155 : Cond.fieldLink xnR_SC 155 (xnT_ST 1).1 (xnT_ST 1).2.1 (xnT_ST 1).2.2.1 ∈ xf_GW := xf_mt 63 (by decide +kernel) (by decide +kernel)
theorem xk_SC_158 : Cond.fieldLink xnR_SC 158 (xnT_ST 9).1 (xnT_ST 9).2.1 (xnT_ST 9).2.2.1 ∈ xf_GW := xf_mt 92 (by decide +kernel) (by decide +kernel)
theorem xkc_SC_161 : Cond.constant xnR_SC 161 (1368264107) ∈ xf_GW := xf_mt 301 (by decide +kernel) (by decide +kernel)
theorem xk_SC_162 : Cond.methodLink xnR_SC 162 xny_SC_mix ∈ xf_GW := xf_mt 298 (by decide +kernel) (by decide +kernel)
theorem xk_SC_165 : Cond.methodLink xnR_SC 165 xny_SC_otherBucket ∈ xf_GW := xf_mt 317 (by decide +kernel) (by decide +kernel)
theorem xk_PA_9 : Cond.fieldLink xnR_PA 9 (xnT_PA 0).1 (xnT_PA 0).2.1 (xnT_PA 0).2.2.1 ∈ xf_GW := xf_mt 144 (by decide +kernel) (by decide +kernel)
theorem xk_PA_15 : Cond.fieldLink xnR_PA 15 (xnT_PA 1).1 (xnT_PA 1).2.1 (xnT_PA 1).2.2.1 ∈ xf_GW := xf_mt 145 (by decide +kernel) (by decide +kernel)
theorem xk_PA_19 : Cond.fieldLink xnR_PA 19 (xnT_ST 3).1 (xnT_ST 3).2.1 (xnT_ST 3).2.2.1 ∈ xf_GW := xf_mt 66 (by decide +kernel) (by decide +kernel)
theorem xk_PA_24 : Cond.fieldLink xnR_PA 24 (xnT_PA 3).1 (xnT_PA 3).2.1 (xnT_PA 3).2.2.1 ∈ xf_GW := xf_mt 149 (by decide +kernel) (by decide +kernel)
theorem xk_PA_27 : Cond.fieldLink xnR_PA 27 (xnT_PA 4).1 (xnT_PA 4).2.1 (xnT_PA 4).2.2.1 ∈ xf_GW := xf_mt 150 (by decide +kernel) (by decide +kernel)
theorem xk_PA_30 : Cond.fieldLink xnR_PA 30 (xnT_PA 5).1 (xnT_PA 5).2.1 (xnT_PA 5).2.2.1 ∈ xf_GW := xf_mt 151 (by decide +kernel) (by decide +kernel)
theorem xk_PA_33 : Cond.fieldLink xnR_PA 33 (xnT_PA 6).1 (xnT_PA 6).2.1 (xnT_PA 6).2.2.1 ∈ xf_GW := xf_mt 152 (by decide +kernel) (by decide +kernel)
theorem xk_PA_37 : Cond.methodLink xnR_PA 37 xny_AR_fill ∈ xf_GW := xf_mt 377 (by decide +kernel) (by decide +kernel)
theorem xk_PA_43 : Cond.methodLinkNest xnR_PA 43 xny_SC_firstBucket "SteppedCache" ∈ xf_NL := xf_mn 378 (by decide +kernel) (by decide +kernel)
theorem xk_PA_47 : Cond.methodLink xnR_PA 47 xny_PA_enter ∈ xf_GW := xf_mt 379 (by decide +kernel) (by decide +kernel)
theorem xk_PA_51 : Cond.methodLinkNest xnR_PA 51 xny_SC_secondBucket "SteppedCache" ∈ xf_NL := xf_mn 383 (by decide +kernel) (by decide +kernel)
theorem xk_PA_54 : Cond.methodLink xnR_PA 54 xny_PA_keep ∈ xf_GW := xf_mt 384 (by decide +kernel) (by decide +kernel)
theorem xk_PA_58 : Cond.fieldLink xnR_PA 58 (xnT_ST 2).1 (xnT_ST 2).2.1 (xnT_ST 2).2.2.1 ∈ xf_GW := xf_mt 65 (by decide +kernel) (by decide +kernel)
theorem xk_PA_61 : Cond.fieldLink xnR_PA 61 (xnT_ST 4).1 (xnT_ST 4).2.1 (xnT_ST 4).2.2.1 ∈ xf_GW := xf_mt 72 (by decide +kernel) (by decide +kernel)
theorem xk_PA_64 : Cond.methodLinkNest xnR_PA 64 xny_SC_otherBucket "SteppedCache" ∈ xf_NL := xf_mn 388 (by decide +kernel) (by decide +kernel)
theorem xk_PA_68 : Cond.fieldLink xnR_PA 68 (xnT_PA 2).1 (xnT_PA 2).2.1 (xnT_PA 2).2.2.1 ∈ xf_GW := xf_mt 147 (by decide +kernel) (by decide +kernel)
theorem xk_RD_9 : Cond.fieldLink xnR_RD 9 (xnT_RD 0).1 (xnT_RD 0).2.1 (xnT_RD 0).2.2.1 ∈ xf_GW := xf_mt 217 (by decide +kernel) (by decide +kernel)
theorem xk_RD_15 : Cond.fieldLink xnR_RD 15 (xnT_RD 1).1 (xnT_RD 1).2.1 (xnT_RD 1).2.2.1 ∈ xf_GW := xf_mt 218 (by decide +kernel) (by decide +kernel)
theorem xk_RD_19 : Cond.fieldLink xnR_RD 19 (xnT_RD 2).1 (xnT_RD 2).2.1 (xnT_RD 2).2.2.1 ∈ xf_GW := xf_mt 219 (by decide +kernel) (by decide +kernel)
theorem xk_RD_23 : Cond.fieldLink xnR_RD 23 (xnT_RD 3).1 (xnT_RD 3).2.1 (xnT_RD 3).2.2.1 ∈ xf_GW := xf_mt 220 (by decide +kernel) (by decide +kernel)
theorem xk_RD_27 : Cond.methodLinkNest xnR_RD 27 xny_SC_isWithin "SteppedCache" ∈ xf_NL := xf_mn 429 (by decide +kernel) (by decide +kernel)
theorem xk_RD_31 : Cond.fieldLink xnR_RD 31 (xnT_RD 6).1 (xnT_RD 6).2.1 (xnT_RD 6).2.2.1 ∈ xf_GW := xf_mt 226 (by decide +kernel) (by decide +kernel)
theorem xk_RD_34 : Cond.fieldLink xnR_RD 34 (xnT_RD 7).1 (xnT_RD 7).2.1 (xnT_RD 7).2.2.1 ∈ xf_GW := xf_mt 227 (by decide +kernel) (by decide +kernel)
theorem xk_RD_37 : Cond.methodLink xnR_RD 37 xny_RD_keepVersion ∈ xf_GW := xf_mt 442 (by decide +kernel) (by decide +kernel)
theorem xk_RD_40 : Cond.methodLinkNest xnR_RD 40 xny_SC_firstBucket "SteppedCache" ∈ xf_NL := xf_mn 450 (by decide +kernel) (by decide +kernel)
theorem xk_RD_44 : Cond.methodLink xnR_RD 44 xny_RD_lookInto ∈ xf_GW := xf_mt 451 (by decide +kernel) (by decide +kernel)
theorem xk_RD_48 : Cond.methodLinkNest xnR_RD 48 xny_SC_secondBucket "SteppedCache" ∈ xf_NL := xf_mn 456 (by decide +kernel) (by decide +kernel)
theorem xk_RD_51 : Cond.methodLink xnR_RD 51 xny_RD_copyItem ∈ xf_GW := xf_mt 457 (by decide +kernel) (by decide +kernel)
theorem xk_RD_54 : Cond.methodLink xnR_RD 54 xny_RD_checkVersion ∈ xf_GW := xf_mt 461 (by decide +kernel) (by decide +kernel)
theorem xk_RD_57 : Cond.methodLink xnR_RD 57 xny_RD_readLocked ∈ xf_GW := xf_mt 470 (by decide +kernel) (by decide +kernel)
theorem xk_RD_60 : Cond.methodLink xnR_RD 60 xny_ST_versionFor ∈ xf_GW := xf_mt 446 (by decide +kernel) (by decide +kernel)
theorem xk_RD_65 : Cond.fieldLink xnR_RD 65 (xnT_RD 8).1 (xnT_RD 8).2.1 (xnT_RD 8).2.2.1 ∈ xf_GW := xf_mt 228 (by decide +kernel) (by decide +kernel)
theorem xk_RD_68 : Cond.fieldLink xnR_RD 68 (xnT_TA 3).1 (xnT_TA 3).2.1 (xnT_TA 3).2.2.1 ∈ xf_GW := xf_mt 29 (by decide +kernel) (by decide +kernel)
theorem xk_RD_73 : Cond.methodLink xnR_RD 73 xny_ST_lookUpIn ∈ xf_GW := xf_mt 455 (by decide +kernel) (by decide +kernel)
theorem xk_RD_77 : Cond.fieldLink xnR_RD 77 (xnT_ST 3).1 (xnT_ST 3).2.1 (xnT_ST 3).2.2.1 ∈ xf_GW := xf_mt 69 (by decide +kernel) (by decide +kernel)
theorem xk_RD_81 : Cond.fieldLink xnR_RD 81 (xnT_RD 9).1 (xnT_RD 9).2.1 (xnT_RD 9).2.2.1 ∈ xf_GW := xf_mt 229 (by decide +kernel) (by decide +kernel)
theorem xk_RD_84 : Cond.fieldLink xnR_RD 84 (xnT_ST 5).1 (xnT_ST 5).2.1 (xnT_ST 5).2.2.1 ∈ xf_GW := xf_mt 76 (by decide +kernel) (by decide +kernel)
theorem xk_RD_87 : Cond.fieldLink xnR_RD 87 (xnT_RD 4).1 (xnT_RD 4).2.1 (xnT_RD 4).2.2.1 ∈ xf_GW := xf_mt 222 (by decide +kernel) (by decide +kernel)
theorem xk_RD_90 : Cond.fieldLink xnR_RD 90 (xnT_ST 6).1 (xnT_ST 6).2.1 (xnT_ST 6).2.2.1 ∈ xf_GW := xf_mt 81 (by decide +kernel) (by decide +kernel)
theorem xk_RD_93 : Cond.fieldLink xnR_RD 93 (xnT_RD 5).1 (xnT_RD 5).2.1 (xnT_RD 5).2.2.1 ∈ xf_GW := xf_mt 224 (by decide +kernel) (by decide +kernel)
theorem xk_RD_96 : Cond.fieldLink xnR_RD 96 (xnT_ST 7).1 (xnT_ST 7).2.1 (xnT_ST 7).2.2.1 ∈ xf_GW := xf_mt 85 (by decide +kernel) (by decide +kernel)
theorem xk_RD_99 : Cond.fieldLink xnR_RD 99 (xnT_RD 10).1 (xnT_RD 10).2.1 (xnT_RD 10).2.2.1 ∈ xf_GW := xf_mt 230 (by decide +kernel) (by decide +kernel)
theorem xk_RD_102 : Cond.fieldLink xnR_RD 102 (xnT_TA 2).1 (xnT_TA 2).2.1 (xnT_TA 2).2.2.1 ∈ xf_GW := xf_mt 27 (by decide +kernel) (by decide +kernel)
theorem xk_RD_103 : Cond.methodLink xnR_RD 103 xny_ST_isOver ∈ xf_GW := xf_mt 465 (by decide +kernel) (by decide +kernel)
theorem xk_RD_107 : Cond.methodLink xnR_RD 107 xny_RD_end ∈ xf_GW := xf_mt 466 (by decide +kernel) (by decide +kernel)
theorem xk_RD_111 : Cond.methodLink xnR_RD 111 xny_WR_isUnderWay ∈ xf_GW := xf_mt 474 (by decide +kernel) (by decide +kernel)
theorem xk_RD_117 : Cond.methodLink xnR_RD 117 xny_ST_lookUp ∈ xf_GW := xf_mt 475 (by decide +kernel) (by decide +kernel)
theorem xk_RD_120 : Cond.fieldLink xnR_RD 120 (xnT_ST 8).1 (xnT_ST 8).2.1 (xnT_ST 8).2.2.1 ∈ xf_GW := xf_mt 88 (by decide +kernel) (by decide +kernel)
theorem xk_ST_9 : Cond.fieldLink xnR_ST 9 (xnT_ST 0).1 (xnT_ST 0).2.1 (xnT_ST 0).2.2.1 ∈ xf_GW := xf_mt 60 (by decide +kernel) (by decide +kernel)
theorem xk_ST_15 : Cond.fieldLink xnR_ST 15 (xnT_ST 1).1 (xnT_ST 1).2.1 (xnT_ST 1).2.2.1 ∈ xf_GW := xf_mt 61 (by decide +kernel) (by decide +kernel)
theorem xk_ST_19 : Cond.fieldLink xnR_ST 19 (xnT_ST 2).1 (xnT_ST 2).2.1 (xnT_ST 2).2.2.1 ∈ xf_GW := xf_mt 64 (by decide +kernel) (by decide +kernel)
theorem xk_ST_22 : Cond.fieldLink xnR_ST 22 (xnT_ST 3).1 (xnT_ST 3).2.1 (xnT_ST 3).2.2.1 ∈ xf_GW := xf_mt 67 (by decide +kernel) (by decide +kernel)
theorem xk_ST_26 : Cond.methodLink xnR_ST 26 xny_AR_fill ∈ xf_GW := xf_mt 57 (by decide +kernel) (by decide +kernel)
theorem xk_ST_32 : Cond.fieldLink xnR_ST 32 (xnT_ST 4).1 (xnT_ST 4).2.1 (xnT_ST 4).2.2.1 ∈ xf_GW := xf_mt 71 (by decide +kernel) (by decide +kernel)
theorem xk_ST_35 : Cond.fieldLink xnR_ST 35 (xnT_ST 5).1 (xnT_ST 5).2.1 (xnT_ST 5).2.2.1 ∈ xf_GW := xf_mt 75 (by decide +kernel) (by decide +kernel)
theorem xk_ST_38 : Cond.fieldLink xnR_ST 38 (xnT_ST 6).1 (xnT_ST 6).2.1 (xnT_ST 6).2.2.1 ∈ xf_GW := xf_mt 79 (by decide +kernel) (by decide +kernel)
theorem xk_ST_41 : Cond.fieldLink xnR_ST 41 (xnT_ST 7).1 (xnT_ST 7).2.1 (xnT_ST 7).2.2.1 ∈ xf_GW := xf_mt 83 (by decide +kernel) (by decide +kernel)
theorem xk_ST_44 : Cond.fieldLink xnR_ST 44 (xnT_ST 8).1 (xnT_ST 8).2.1 (xnT_ST 8).2.2.1 ∈ xf_GW := xf_mt 87 (by decide +kernel) (by decide +kernel)
theorem xk_ST_48 : Cond.fieldLink xnR_ST 48 (xnT_ST 9).1 (xnT_ST 9).2.1 (xnT_ST 9).2.2.1 ∈ xf_GW := xf_mt 91 (by decide +kernel) (by decide +kernel)
theorem xk_ST_51 : Cond.fieldLink xnR_ST 51 (xnT_ST 10).1 (xnT_ST 10).2.1 (xnT_ST 10).2.2.1 ∈ xf_GW := xf_mt 93 (by decide +kernel) (by decide +kernel)
theorem xk_ST_54 : Cond.fieldLink xnR_ST 54 (xnT_ST 11).1 (xnT_ST 11).2.1 (xnT_ST 11).2.2.1 ∈ xf_GW := xf_mt 95 (by decide +kernel) (by decide +kernel)
theorem xk_ST_57 : Cond.fieldLink xnR_ST 57 (xnT_ST 12).1 (xnT_ST 12).2.1 (xnT_ST 12).2.2.1 ∈ xf_GW := xf_mt 97 (by decide +kernel) (by decide +kernel)
theorem xk_ST_60 : Cond.methodLinkNest xnR_ST 60 xny_SC_firstBucket "SteppedCache" ∈ xf_NL := xf_mn 295 (by decide +kernel) (by decide +kernel)
theorem xk_ST_64 : Cond.methodLink xnR_ST 64 xny_ST_findIn ∈ xf_GW := xf_mt 306 (by decide +kernel) (by decide +kernel)
theorem xk_ST_68 : Cond.methodLinkNest xnR_ST 68 xny_SC_secondBucket "SteppedCache" ∈ xf_NL := xf_mn 313 (by decide +kernel) (by decide +kernel)
theorem xk_ST_71 : Cond.methodLink xnR_ST 71 xny_ST_lookUpIn ∈ xf_GW := xf_mt 302 (by decide +kernel) (by decide +kernel)
theorem xk_ST_74 : Cond.methodLinkNest xnR_ST 74 xny_SC_tagOf "SteppedCache" ∈ xf_NL := xf_mn 310 (by decide +kernel) (by decide +kernel)
theorem xk_ST_77 : Cond.fieldLink xnR_ST 77 (xnT_TA 4).1 (xnT_TA 4).2.1 (xnT_TA 4).2.2.1 ∈ xf_GW := xf_mt 31 (by decide +kernel) (by decide +kernel)
theorem xk_ST_82 : Cond.methodLinkNest xnR_ST 82 xny_SC_stripeOf "SteppedCache" ∈ xf_NL := xf_mn 333 (by decide +kernel) (by decide +kernel)
theorem xk_ST_85 : Cond.methodLink xnR_ST 85 xny_ST_growVersion ∈ xf_GW := xf_mt 329 (by decide +kernel) (by decide +kernel)
theorem xk_ST_89 : Cond.fieldLink xnR_ST 89 (xnT_ST 13).1 (xnT_ST 13).2.1 (xnT_ST 13).2.2.1 ∈ xf_GW := xf_mt 99 (by decide +kernel) (by decide +kernel)
theorem xk_ST_92 : Cond.methodLink xnR_ST 92 xny_ST_lowestFree ∈ xf_GW := xf_mt 409 (by decide +kernel) (by decide +kernel)
theorem xk_ST_96 : Cond.methodLink xnR_ST 96 xny_ST_renew ∈ xf_GW := xf_mt 413 (by decide +kernel) (by decide +kernel)
theorem xk_WR_9 : Cond.fieldLink xnR_WR 9 (xnT_WR 0).1 (xnT_WR 0).2.1 (xnT_WR 0).2.2.1 ∈ xf_GW := xf_mt 168 (by decide +kernel) (by decide +kernel)
theorem xk_WR_15 : Cond.fieldLink xnR_WR 15 (xnT_WR 1).1 (xnT_WR 1).2.1 (xnT_WR 1).2.2.1 ∈ xf_GW := xf_mt 169 (by decide +kernel) (by decide +kernel)
theorem xk_WR_21 : Cond.methodLink xnR_WR 21 xny_PA_init ∈ xf_GW := xf_mt 140 (by decide +kernel) (by decide +kernel)
theorem xk_WR_24 : Cond.fieldLink xnR_WR 24 (xnT_WR 2).1 (xnT_WR 2).2.1 (xnT_WR 2).2.2.1 ∈ xf_GW := xf_mt 170 (by decide +kernel) (by decide +kernel)
theorem xk_WR_28 : Cond.fieldLink xnR_WR 28 (xnT_WR 3).1 (xnT_WR 3).2.1 (xnT_WR 3).2.2.1 ∈ xf_GW := xf_mt 171 (by decide +kernel) (by decide +kernel)
theorem xk_WR_32 : Cond.fieldLink xnR_WR 32 (xnT_WR 5).1 (xnT_WR 5).2.1 (xnT_WR 5).2.2.1 ∈ xf_GW := xf_mt 175 (by decide +kernel) (by decide +kernel)
theorem xk_WR_35 : Cond.fieldLink xnR_WR 35 (xnT_WR 6).1 (xnT_WR 6).2.1 (xnT_WR 6).2.2.1 ∈ xf_GW := xf_mt 176 (by decide +kernel) (by decide +kernel)
theorem xk_WR_38 : Cond.fieldLink xnR_WR 38 (xnT_WR 7).1 (xnT_WR 7).2.1 (xnT_WR 7).2.2.1 ∈ xf_GW := xf_mt 177 (by decide +kernel) (by decide +kernel)
theorem xk_WR_41 : Cond.fieldLink xnR_WR 41 (xnT_WR 8).1 (xnT_WR 8).2.1 (xnT_WR 8).2.2.1 ∈ xf_GW := xf_mt 178 (by decide +kernel) (by decide +kernel)
theorem xk_WR_44 : Cond.fieldLink xnR_WR 44 (xnT_WR 9).1 (xnT_WR 9).2.1 (xnT_WR 9).2.2.1 ∈ xf_GW := xf_mt 179 (by decide +kernel) (by decide +kernel)
theorem xk_WR_47 : Cond.fieldLink xnR_WR 47 (xnT_WR 10).1 (xnT_WR 10).2.1 (xnT_WR 10).2.2.1 ∈ xf_GW := xf_mt 180 (by decide +kernel) (by decide +kernel)
theorem xk_WR_50 : Cond.methodLink xnR_WR 50 xny_WR_lookUpKey ∈ xf_GW := xf_mt 287 (by decide +kernel) (by decide +kernel)
theorem xk_WR_53 : Cond.methodLink xnR_WR 53 xny_WR_changeValue ∈ xf_GW := xf_mt 348 (by decide +kernel) (by decide +kernel)
theorem xk_WR_56 : Cond.methodLink xnR_WR 56 xny_WR_changeToken ∈ xf_GW := xf_mt 353 (by decide +kernel) (by decide +kernel)
theorem xk_WR_59 : Cond.methodLink xnR_WR 59 xny_WR_evict ∈ xf_GW := xf_mt 361 (by decide +kernel) (by decide +kernel)
theorem xk_WR_62 : Cond.methodLink xnR_WR 62 xny_WR_seekPath ∈ xf_GW := xf_mt 369 (by decide +kernel) (by decide +kernel)
theorem xk_WR_65 : Cond.methodLink xnR_WR 65 xny_WR_moveOn ∈ xf_GW := xf_mt 393 (by decide +kernel) (by decide +kernel)
theorem xk_WR_68 : Cond.methodLink xnR_WR 68 xny_WR_moveOff ∈ xf_GW := xf_mt 397 (by decide +kernel) (by decide +kernel)
theorem xk_WR_71 : Cond.methodLink xnR_WR 71 xny_WR_insertKey ∈ xf_GW := xf_mt 401 (by decide +kernel) (by decide +kernel)
theorem xk_WR_74 : Cond.methodLink xnR_WR 74 xny_ST_lookUp ∈ xf_GW := xf_mt 291 (by decide +kernel) (by decide +kernel)
theorem xk_WR_80 : Cond.fieldLink xnR_WR 80 (xnT_ST 3).1 (xnT_ST 3).2.1 (xnT_ST 3).2.2.1 ∈ xf_GW := xf_mt 68 (by decide +kernel) (by decide +kernel)
theorem xk_WR_84 : Cond.fieldLink xnR_WR 84 (xnT_ST 7).1 (xnT_ST 7).2.1 (xnT_ST 7).2.2.1 ∈ xf_GW := xf_mt 84 (by decide +kernel) (by decide +kernel)
theorem xk_WR_87 : Cond.methodLink xnR_WR 87 xny_ST_isOver ∈ xf_GW := xf_mt 321 (by decide +kernel) (by decide +kernel)
theorem xk_WR_91 : Cond.methodLink xnR_WR 91 xny_ST_remove ∈ xf_GW := xf_mt 325 (by decide +kernel) (by decide +kernel)
theorem xk_WR_95 : Cond.fieldLink xnR_WR 95 (xnT_TA 5).1 (xnT_TA 5).2.1 (xnT_TA 5).2.2.1 ∈ xf_GW := xf_mt 33 (by decide +kernel) (by decide +kernel)
theorem xk_WR_100 : Cond.methodLink xnR_WR 100 xny_WR_chooseWhenFound ∈ xf_GW := xf_mt 336 (by decide +kernel) (by decide +kernel)
theorem xk_WR_103 : Cond.methodLink xnR_WR 103 xny_WR_chooseWhenNotFound ∈ xf_GW := xf_mt 340 (by decide +kernel) (by decide +kernel)
theorem xk_WR_106 : Cond.fieldLink xnR_WR 106 (xnT_ST 6).1 (xnT_ST 6).2.1 (xnT_ST 6).2.2.1 ∈ xf_GW := xf_mt 80 (by decide +kernel) (by decide +kernel)
theorem xk_WR_109 : Cond.fieldLink xnR_WR 109 (xnT_WR 11).1 (xnT_WR 11).2.1 (xnT_WR 11).2.2.1 ∈ xf_GW := xf_mt 181 (by decide +kernel) (by decide +kernel)
theorem xk_WR_112 : Cond.methodLink xnR_WR 112 xny_ST_isFull ∈ xf_GW := xf_mt 344 (by decide +kernel) (by decide +kernel)
theorem xk_WR_116 : Cond.methodLink xnR_WR 116 xny_ST_growVersion ∈ xf_GW := xf_mt 352 (by decide +kernel) (by decide +kernel)
theorem xk_WR_120 : Cond.fieldLink xnR_WR 120 (xnT_ST 5).1 (xnT_ST 5).2.1 (xnT_ST 5).2.2.1 ∈ xf_GW := xf_mt 77 (by decide +kernel) (by decide +kernel)
theorem xk_WR_123 : Cond.methodLink xnR_WR 123 xny_ST_renew ∈ xf_GW := xf_mt 357 (by decide +kernel) (by decide +kernel)
theorem xk_WR_126 : Cond.fieldLink xnR_WR 126 (xnT_ST 1).1 (xnT_ST 1).2.1 (xnT_ST 1).2.2.1 ∈ xf_GW := xf_mt 62 (by decide +kernel) (by decide +kernel)
theorem xk_WR_129 : Cond.fieldLink xnR_WR 129 (xnT_ST 8).1 (xnT_ST 8).2.1 (xnT_ST 8).2.2.1 ∈ xf_GW := xf_mt 89 (by decide +kernel) (by decide +kernel)
theorem xk_WR_133 : Cond.fieldLink xnR_WR 133 (xnT_WR 4).1 (xnT_WR 4).2.1 (xnT_WR 4).2.2.1 ∈ xf_GW := xf_mt 173 (by decide +kernel) (by decide +kernel)
theorem xk_WR_136 : Cond.methodLink xnR_WR 136 xny_WR_turnHand ∈ xf_GW := xf_mt 365 (by decide +kernel) (by decide +kernel)
theorem xk_WR_139 : Cond.fieldLink xnR_WR 139 (xnT_TA 0).1 (xnT_TA 0).2.1 (xnT_TA 0).2.2.1 ∈ xf_GW := xf_mt 23 (by decide +kernel) (by decide +kernel)
theorem xk_WR_142 : Cond.methodLink xnR_WR 142 xny_PA_seek ∈ xf_GW := xf_mt 373 (by decide +kernel) (by decide +kernel)
theorem xk_WR_145 : Cond.fieldLink xnR_WR 145 (xnT_PA 2).1 (xnT_PA 2).2.1 (xnT_PA 2).2.2.1 ∈ xf_GW := xf_mt 148 (by decide +kernel) (by decide +kernel)
theorem xk_WR_148 : Cond.fieldLink xnR_WR 148 (xnT_WR 12).1 (xnT_WR 12).2.1 (xnT_WR 12).2.2.1 ∈ xf_GW := xf_mt 182 (by decide +kernel) (by decide +kernel)
theorem xk_WR_151 : Cond.methodLink xnR_WR 151 xny_WR_chooseMove ∈ xf_GW := xf_mt 389 (by decide +kernel) (by decide +kernel)
theorem xk_WR_154 : Cond.fieldLink xnR_WR 154 (xnT_PA 1).1 (xnT_PA 1).2.1 (xnT_PA 1).2.2.1 ∈ xf_GW := xf_mt 146 (by decide +kernel) (by decide +kernel)
theorem xk_WR_157 : Cond.fieldLink xnR_WR 157 (xnT_ST 4).1 (xnT_ST 4).2.1 (xnT_ST 4).2.2.1 ∈ xf_GW := xf_mt 74 (by decide +kernel) (by decide +kernel)
theorem xk_WR_160 : Cond.fieldLink xnR_WR 160 (xnT_TA 1).1 (xnT_TA 1).2.1 (xnT_TA 1).2.2.1 ∈ xf_GW := xf_mt 25 (by decide +kernel) (by decide +kernel)
theorem xk_WR_163 : Cond.methodLink xnR_WR 163 xny_ST_insert ∈ xf_GW := xf_mt 405 (by decide +kernel) (by decide +kernel)
theorem xk_LW_9 : Cond.methodLink xnR_LW 9 xny_LW_cell ∈ xf_GW := xf_mt 534 (by decide +kernel) (by decide +kernel)
theorem xk_LW_15 : Cond.methodLink xnR_LW 15 xny_SC_init ∈ xf_GW := xf_mt 11 (by decide +kernel) (by decide +kernel)
theorem xk_LW_20 : Cond.methodLink xnR_LW 20 xny_MO_init ∈ xf_GW := xf_mt 539 (by decide +kernel) (by decide +kernel)
theorem xk_LW_21 : Cond.methodLink xnR_LW 21 xny_SC_write ∈ xf_GW := xf_mt 267 (by decide +kernel) (by decide +kernel)
theorem xk_LW_25 : Cond.methodLink xnR_LW 25 xny_MO_write ∈ xf_GW := xf_mt 683 (by decide +kernel) (by decide +kernel)
theorem xk_LW_26 : Cond.methodLink xnR_LW 26 xny_SC_work ∈ xf_GW := xf_mt 279 (by decide +kernel) (by decide +kernel)
theorem xk_LW_30 : Cond.methodLink xnR_LW 30 xny_MO_work ∈ xf_GW := xf_mt 687 (by decide +kernel) (by decide +kernel)
theorem xk_LW_31 : Cond.methodLink xnR_LW 31 xny_SC_outcome ∈ xf_GW := xf_mt 414 (by decide +kernel) (by decide +kernel)
theorem xk_LW_35 : Cond.methodLink xnR_LW 35 xny_MO_outcome ∈ xf_GW := xf_mt 747 (by decide +kernel) (by decide +kernel)
theorem xk_LW_36 : Cond.methodLink xnR_LW 36 xny_SC_get ∈ xf_GW := xf_mt 418 (by decide +kernel) (by decide +kernel)
theorem xk_LW_40 : Cond.methodLink xnR_LW 40 xny_MO_get ∈ xf_GW := xf_mt 751 (by decide +kernel) (by decide +kernel)
theorem xk_LW_41 : Cond.methodLink xnR_LW 41 xny_SC_step ∈ xf_GW := xf_mt 434 (by decide +kernel) (by decide +kernel)
theorem xk_LW_44 : Cond.methodLink xnR_LW 44 xny_MO_step ∈ xf_GW := xf_mt 762 (by decide +kernel) (by decide +kernel)
theorem xk_LW_45 : Cond.methodLink xnR_LW 45 xny_SC_state ∈ xf_GW := xf_mt 476 (by decide +kernel) (by decide +kernel)
theorem xk_LW_48 : Cond.methodLink xnR_LW 48 xny_MO_state ∈ xf_GW := xf_mt 786 (by decide +kernel) (by decide +kernel)
theorem xk_LW_49 : Cond.methodLink xnR_LW 49 xny_SC_value ∈ xf_GW := xf_mt 480 (by decide +kernel) (by decide +kernel)
theorem xk_LW_52 : Cond.methodLink xnR_LW 52 xny_MO_value ∈ xf_GW := xf_mt 790 (by decide +kernel) (by decide +kernel)
theorem xk_LW_53 : Cond.methodLink xnR_LW 53 xny_SC_token ∈ xf_GW := xf_mt 488 (by decide +kernel) (by decide +kernel)
theorem xk_LW_56 : Cond.methodLink xnR_LW 56 xny_MO_token ∈ xf_GW := xf_mt 794 (by decide +kernel) (by decide +kernel)
theorem xk_LW_57 : Cond.methodLink xnR_LW 57 xny_SC_pass ∈ xf_GW := xf_mt 492 (by decide +kernel) (by decide +kernel)
theorem xk_LW_61 : Cond.methodLink xnR_LW 61 xny_MO_pass ∈ xf_GW := xf_mt 798 (by decide +kernel) (by decide +kernel)
theorem xk_LW_62 : Cond.methodLink xnR_LW 62 xny_SC_where ∈ xf_GW := xf_mt 496 (by decide +kernel) (by decide +kernel)
theorem xk_LW_65 : Cond.methodLink xnR_LW 65 xny_MO_where ∈ xf_GW := xf_mt 675 (by decide +kernel) (by decide +kernel)
theorem xk_LW_66 : Cond.methodLink xnR_LW 66 xny_SC_at ∈ xf_GW := xf_mt 504 (by decide +kernel) (by decide +kernel)
theorem xk_LW_69 : Cond.methodLink xnR_LW 69 xny_MO_at ∈ xf_GW := xf_mt 802 (by decide +kernel) (by decide +kernel)
theorem xk_LW_70 : Cond.methodLink xnR_LW 70 xny_SC_item ∈ xf_GW := xf_mt 508 (by decide +kernel) (by decide +kernel)
theorem xk_LW_74 : Cond.methodLink xnR_LW 74 xny_MO_item ∈ xf_GW := xf_mt 810 (by decide +kernel) (by decide +kernel)
theorem xk_LW_75 : Cond.methodLink xnR_LW 75 xny_SC_used ∈ xf_GW := xf_mt 516 (by decide +kernel) (by decide +kernel)
theorem xk_LW_78 : Cond.methodLink xnR_LW 78 xny_MO_used ∈ xf_GW := xf_mt 806 (by decide +kernel) (by decide +kernel)
theorem xk_LW_79 : Cond.methodLink xnR_LW 79 xny_SC_version ∈ xf_GW := xf_mt 520 (by decide +kernel) (by decide +kernel)
theorem xk_LW_82 : Cond.methodLink xnR_LW 82 xny_MO_version ∈ xf_GW := xf_mt 814 (by decide +kernel) (by decide +kernel)
theorem xk_LW_83 : Cond.methodLink xnR_LW 83 xny_SC_hash ∈ xf_GW := xf_mt 524 (by decide +kernel) (by decide +kernel)
theorem xk_LW_86 : Cond.methodLink xnR_LW 86 xny_MO_hash ∈ xf_GW := xf_mt 658 (by decide +kernel) (by decide +kernel)
theorem xk_LW_87 : Cond.methodLink xnR_LW 87 xny_SC_count ∈ xf_GW := xf_mt 530 (by decide +kernel) (by decide +kernel)
theorem xk_LW_90 : Cond.methodLink xnR_LW 90 xny_MO_count ∈ xf_GW := xf_mt 818 (by decide +kernel) (by decide +kernel)
theorem xk_MO_7 : Cond.fieldLink xnR_MO 7 (xnT_MO 5).1 (xnT_MO 5).2.1 (xnT_MO 5).2.2.1 ∈ xf_GW := xf_mt 548 (by decide +kernel) (by decide +kernel)
theorem xk_MO_13 : Cond.fieldLink xnR_MO 13 (xnT_MO 6).1 (xnT_MO 6).2.1 (xnT_MO 6).2.2.1 ∈ xf_GW := xf_mt 549 (by decide +kernel) (by decide +kernel)
theorem xk_MO_17 : Cond.fieldLink xnR_MO 17 (xnT_MO 7).1 (xnT_MO 7).2.1 (xnT_MO 7).2.2.1 ∈ xf_GW := xf_mt 550 (by decide +kernel) (by decide +kernel)
theorem xk_MO_20 : Cond.fieldLink xnR_MO 20 (xnT_MO 8).1 (xnT_MO 8).2.1 (xnT_MO 8).2.2.1 ∈ xf_GW := xf_mt 551 (by decide +kernel) (by decide +kernel)
theorem xk_MO_23 : Cond.fieldLink xnR_MO 23 (xnT_MO 9).1 (xnT_MO 9).2.1 (xnT_MO 9).2.2.1 ∈ xf_GW := xf_mt 552 (by decide +kernel) (by decide +kernel)
theorem xk_MO_26 : Cond.fieldLink xnR_MO 26 (xnT_MO 10).1 (xnT_MO 10).2.1 (xnT_MO 10).2.2.1 ∈ xf_GW := xf_mt 553 (by decide +kernel) (by decide +kernel)
theorem xk_MO_29 : Cond.fieldLink xnR_MO 29 (xnT_MO 11).1 (xnT_MO 11).2.1 (xnT_MO 11).2.2.1 ∈ xf_GW := xf_mt 554 (by decide +kernel) (by decide +kernel)
theorem xk_MO_32 : Cond.fieldLink xnR_MO 32 (xnT_MO 12).1 (xnT_MO 12).2.1 (xnT_MO 12).2.2.1 ∈ xf_GW := xf_mt 555 (by decide +kernel) (by decide +kernel)
theorem xk_MO_35 : Cond.fieldLink xnR_MO 35 (xnT_MO 14).1 (xnT_MO 14).2.1 (xnT_MO 14).2.2.1 ∈ xf_GW := xf_mt 557 (by decide +kernel) (by decide +kernel)
theorem xk_MO_39 : Cond.fieldLink xnR_MO 39 (xnT_MO 23).1 (xnT_MO 23).2.1 (xnT_MO 23).2.2.1 ∈ xf_GW := xf_mt 566 (by decide +kernel) (by decide +kernel)
theorem xk_MO_42 : Cond.fieldLink xnR_MO 42 (xnT_MO 24).1 (xnT_MO 24).2.1 (xnT_MO 24).2.2.1 ∈ xf_GW := xf_mt 567 (by decide +kernel) (by decide +kernel)
theorem xk_MO_45 : Cond.fieldLink xnR_MO 45 (xnT_MO 25).1 (xnT_MO 25).2.1 (xnT_MO 25).2.2.1 ∈ xf_GW := xf_mt 568 (by decide +kernel) (by decide +kernel)
theorem xk_MO_48 : Cond.fieldLink xnR_MO 48 (xnT_MO 26).1 (xnT_MO 26).2.1 (xnT_MO 26).2.2.1 ∈ xf_GW := xf_mt 569 (by decide +kernel) (by decide +kernel)
theorem xk_MO_51 : Cond.fieldLink xnR_MO 51 (xnT_MO 27).1 (xnT_MO 27).2.1 (xnT_MO 27).2.2.1 ∈ xf_GW := xf_mt 570 (by decide +kernel) (by decide +kernel)
theorem xk_MO_54 : Cond.fieldLink xnR_MO 54 (xnT_MO 28).1 (xnT_MO 28).2.1 (xnT_MO 28).2.2.1 ∈ xf_GW := xf_mt 571 (by decide +kernel) (by decide +kernel)
theorem xk_MO_57 : Cond.fieldLink xnR_MO 57 (xnT_MO 29).1 (xnT_MO 29).2.1 (xnT_MO 29).2.2.1 ∈ xf_GW := xf_mt 572 (by decide +kernel) (by decide +kernel)
theorem xk_MO_60 : Cond.fieldLink xnR_MO 60 (xnT_MO 30).1 (xnT_MO 30).2.1 (xnT_MO 30).2.2.1 ∈ xf_GW := xf_mt 573 (by decide +kernel) (by decide +kernel)
theorem xk_MO_63 : Cond.fieldLink xnR_MO 63 (xnT_MO 31).1 (xnT_MO 31).2.1 (xnT_MO 31).2.2.1 ∈ xf_GW := xf_mt 574 (by decide +kernel) (by decide +kernel)
theorem xk_MO_66 : Cond.fieldLink xnR_MO 66 (xnT_MO 0).1 (xnT_MO 0).2.1 (xnT_MO 0).2.2.1 ∈ xf_GW := xf_mt 543 (by decide +kernel) (by decide +kernel)
theorem xk_MO_69 : Cond.fieldLink xnR_MO 69 (xnT_MO 1).1 (xnT_MO 1).2.1 (xnT_MO 1).2.2.1 ∈ xf_GW := xf_mt 544 (by decide +kernel) (by decide +kernel)
theorem xkc_MO_72 : Cond.constant xnR_MO 72 (1368264107) ∈ xf_GW := xf_mt 668 (by decide +kernel) (by decide +kernel)
theorem xk_MO_73 : Cond.methodLink xnR_MO 73 xny_MO_mix ∈ xf_GW := xf_mt 665 (by decide +kernel) (by decide +kernel)
theorem xk_MO_77 : Cond.methodLink xnR_MO 77 xny_MO_tag ∈ xf_GW := xf_mt 669 (by decide +kernel) (by decide +kernel)
theorem xk_MO_80 : Cond.methodLink xnR_MO 80 xny_MO_bucket ∈ xf_GW := xf_mt 662 (by decide +kernel) (by decide +kernel)
theorem xk_MO_84 : Cond.methodLink xnR_MO 84 xny_MO_stripe ∈ xf_GW := xf_mt 672 (by decide +kernel) (by decide +kernel)
theorem xk_MO_87 : Cond.methodLink xnR_MO 87 xny_MO_search ∈ xf_GW := xf_mt 679 (by decide +kernel) (by decide +kernel)
theorem xk_MO_90 : Cond.fieldLink xnR_MO 90 (xnT_MO 36).1 (xnT_MO 36).2.1 (xnT_MO 36).2.2.1 ∈ xf_GW := xf_mt 579 (by decide +kernel) (by decide +kernel)
theorem xk_MO_93 : Cond.methodLink xnR_MO 93 xny_MO_look ∈ xf_GW := xf_mt 703 (by decide +kernel) (by decide +kernel)
theorem xk_MO_96 : Cond.fieldLink xnR_MO 96 (xnT_MO 2).1 (xnT_MO 2).2.1 (xnT_MO 2).2.2.1 ∈ xf_GW := xf_mt 545 (by decide +kernel) (by decide +kernel)
theorem xk_MO_99 : Cond.fieldLink xnR_MO 99 (xnT_MO 13).1 (xnT_MO 13).2.1 (xnT_MO 13).2.2.1 ∈ xf_GW := xf_mt 556 (by decide +kernel) (by decide +kernel)
theorem xk_MO_102 : Cond.fieldLink xnR_MO 102 (xnT_MO 15).1 (xnT_MO 15).2.1 (xnT_MO 15).2.2.1 ∈ xf_GW := xf_mt 558 (by decide +kernel) (by decide +kernel)
theorem xk_MO_105 : Cond.fieldLink xnR_MO 105 (xnT_MO 16).1 (xnT_MO 16).2.1 (xnT_MO 16).2.2.1 ∈ xf_GW := xf_mt 559 (by decide +kernel) (by decide +kernel)
theorem xk_MO_108 : Cond.fieldLink xnR_MO 108 (xnT_MO 17).1 (xnT_MO 17).2.1 (xnT_MO 17).2.2.1 ∈ xf_GW := xf_mt 560 (by decide +kernel) (by decide +kernel)
theorem xk_MO_111 : Cond.fieldLink xnR_MO 111 (xnT_MO 18).1 (xnT_MO 18).2.1 (xnT_MO 18).2.2.1 ∈ xf_GW := xf_mt 561 (by decide +kernel) (by decide +kernel)
theorem xk_MO_114 : Cond.fieldLink xnR_MO 114 (xnT_MO 19).1 (xnT_MO 19).2.1 (xnT_MO 19).2.2.1 ∈ xf_GW := xf_mt 562 (by decide +kernel) (by decide +kernel)
theorem xk_MO_117 : Cond.methodLink xnR_MO 117 xny_MO_one ∈ xf_GW := xf_mt 691 (by decide +kernel) (by decide +kernel)
theorem xk_MO_120 : Cond.methodLink xnR_MO 120 xny_MO_begin ∈ xf_GW := xf_mt 695 (by decide +kernel) (by decide +kernel)
theorem xk_MO_123 : Cond.fieldLink xnR_MO 123 (xnT_MO 20).1 (xnT_MO 20).2.1 (xnT_MO 20).2.2.1 ∈ xf_GW := xf_mt 563 (by decide +kernel) (by decide +kernel)
theorem xk_MO_126 : Cond.methodLink xnR_MO 126 xny_MO_stamp ∈ xf_GW := xf_mt 723 (by decide +kernel) (by decide +kernel)
theorem xk_MO_130 : Cond.methodLink xnR_MO 130 xny_MO_finish ∈ xf_GW := xf_mt 715 (by decide +kernel) (by decide +kernel)
theorem xk_MO_133 : Cond.methodLink xnR_MO 133 xny_MO_evict ∈ xf_GW := xf_mt 727 (by decide +kernel) (by decide +kernel)
theorem xk_MO_136 : Cond.methodLink xnR_MO 136 xny_MO_seek ∈ xf_GW := xf_mt 731 (by decide +kernel) (by decide +kernel)
theorem xk_MO_139 : Cond.methodLink xnR_MO 139 xny_MO_move ∈ xf_GW := xf_mt 739 (by decide +kernel) (by decide +kernel)
theorem xk_MO_142 : Cond.methodLink xnR_MO 142 xny_MO_enter ∈ xf_GW := xf_mt 743 (by decide +kernel) (by decide +kernel)
theorem xk_MO_145 : Cond.fieldLink xnR_MO 145 (xnT_MO 4).1 (xnT_MO 4).2.1 (xnT_MO 4).2.2.1 ∈ xf_GW := xf_mt 547 (by decide +kernel) (by decide +kernel)
theorem xk_MO_148 : Cond.methodLink xnR_MO 148 xny_MO_lookBoth ∈ xf_GW := xf_mt 699 (by decide +kernel) (by decide +kernel)
theorem xk_MO_151 : Cond.methodLink xnR_MO 151 xny_MO_over ∈ xf_GW := xf_mt 707 (by decide +kernel) (by decide +kernel)
theorem xk_MO_155 : Cond.methodLink xnR_MO 155 xny_MO_remove ∈ xf_GW := xf_mt 711 (by decide +kernel) (by decide +kernel)
theorem xk_MO_158 : Cond.fieldLink xnR_MO 158 (xnT_MO 37).1 (xnT_MO 37).2.1 (xnT_MO 37).2.2.1 ∈ xf_GW := xf_mt 580 (by decide +kernel) (by decide +kernel)
theorem xk_MO_161 : Cond.methodLink xnR_MO 161 xny_MO_many ∈ xf_GW := xf_mt 719 (by decide +kernel) (by decide +kernel)
theorem xk_MO_165 : Cond.fieldLink xnR_MO 165 (xnT_MO 3).1 (xnT_MO 3).2.1 (xnT_MO 3).2.2.1 ∈ xf_GW := xf_mt 546 (by decide +kernel) (by decide +kernel)
theorem xk_MO_168 : Cond.fieldLink xnR_MO 168 (xnT_MO 32).1 (xnT_MO 32).2.1 (xnT_MO 32).2.2.1 ∈ xf_GW := xf_mt 575 (by decide +kernel) (by decide +kernel)
theorem xk_MO_171 : Cond.methodLink xnR_MO 171 xny_MO_leads ∈ xf_GW := xf_mt 735 (by decide +kernel) (by decide +kernel)
theorem xk_MO_175 : Cond.fieldLink xnR_MO 175 (xnT_MO 21).1 (xnT_MO 21).2.1 (xnT_MO 21).2.2.1 ∈ xf_GW := xf_mt 564 (by decide +kernel) (by decide +kernel)
theorem xk_MO_178 : Cond.fieldLink xnR_MO 178 (xnT_MO 22).1 (xnT_MO 22).2.1 (xnT_MO 22).2.2.1 ∈ xf_GW := xf_mt 565 (by decide +kernel) (by decide +kernel)
theorem xk_MO_181 : Cond.fieldLink xnR_MO 181 (xnT_MO 33).1 (xnT_MO 33).2.1 (xnT_MO 33).2.2.1 ∈ xf_GW := xf_mt 576 (by decide +kernel) (by decide +kernel)
theorem xk_MO_184 : Cond.methodLink xnR_MO 184 xny_MO_reader ∈ xf_GW := xf_mt 755 (by decide +kernel) (by decide +kernel)
theorem xk_MO_187 : Cond.methodLink xnR_MO 187 xny_MO_reading ∈ xf_GW := xf_mt 758 (by decide +kernel) (by decide +kernel)
theorem xk_MO_190 : Cond.methodLink xnR_MO 190 xny_MO_keep ∈ xf_GW := xf_mt 766 (by decide +kernel) (by decide +kernel)
theorem xk_MO_194 : Cond.methodLink xnR_MO 194 xny_MO_find ∈ xf_GW := xf_mt 770 (by decide +kernel) (by decide +kernel)
theorem xk_MO_197 : Cond.methodLink xnR_MO 197 xny_MO_copy ∈ xf_GW := xf_mt 774 (by decide +kernel) (by decide +kernel)
theorem xk_MO_200 : Cond.methodLink xnR_MO 200 xny_MO_check ∈ xf_GW := xf_mt 778 (by decide +kernel) (by decide +kernel)
theorem xk_MO_203 : Cond.methodLink xnR_MO 203 xny_MO_locked ∈ xf_GW := xf_mt 782 (by decide +kernel) (by decide +kernel)
theorem xk_MO_206 : Cond.fieldLink xnR_MO 206 (xnT_MO 35).1 (xnT_MO 35).2.1 (xnT_MO 35).2.2.1 ∈ xf_GW := xf_mt 578 (by decide +kernel) (by decide +kernel)
theorem xk_MO_209 : Cond.fieldLink xnR_MO 209 (xnT_MO 34).1 (xnT_MO 34).2.1 (xnT_MO 34).2.2.1 ∈ xf_GW := xf_mt 577 (by decide +kernel) (by decide +kernel)
theorem xq_SC_isWithin : xf_sta xny_SC_isWithin xnc_SC_isWithin 3 (some .boolean) 3 := ⟨⟨xf_mt 52 (by decide +kernel) rfl, xf_mt 1 (by decide +kernel) rfl, by decide +kernel, by decide +kernel, by decide +kernel⟩, xf_mt 51 (by decide +kernel) rfl⟩
theorem xq_AR_fill : xf_sta xny_AR_fill xnc_AR_fill 4 none 2 := ⟨⟨xf_mt 59 (by decide +kernel) rfl, xf_mt 4 (by decide +kernel) rfl, by decide +kernel, by decide +kernel, by decide +kernel⟩, xf_mt 58 (by decide +kernel) rfl⟩
theorem xq_SC_write : xf_vir xny_SC_write xnc_SC_write 6 (some .boolean) 5 := ⟨⟨xf_mt 270 (by decide +kernel) rfl, xf_mt 1 (by decide +kernel) rfl, by decide +kernel, by decide +kernel, by decide +kernel⟩, xf_mt 268 (by decide +kernel) rfl, xf_mt 269 (by decide +kernel) rfl⟩
theorem xq_WR_isUnderWay : xf_vir xny_WR_isUnderWay xnc_WR_isUnderWay 1 (some .boolean) 0 := ⟨⟨xf_mt 274 (by decide +kernel) rfl, xf_mt 5 (by decide +kernel) rfl, by decide +kernel, by decide +kernel, by decide +kernel⟩, xf_mt 272 (by decide +kernel) rfl, xf_mt 273 (by decide +kernel) rfl⟩
theorem xq_WR_begin : xf_vir xny_WR_begin xnc_WR_begin 6 none 5 := ⟨⟨xf_mt 278 (by decide +kernel) rfl, xf_mt 5 (by decide +kernel) rfl, by decide +kernel, by decide +kernel, by decide +kernel⟩, xf_mt 276 (by decide +kernel) rfl, xf_mt 277 (by decide +kernel) rfl⟩
theorem xq_SC_work : xf_vir xny_SC_work xnc_SC_work 3 (some .int) 1 := ⟨⟨xf_mt 282 (by decide +kernel) rfl, xf_mt 1 (by decide +kernel) rfl, by decide +kernel, by decide +kernel, by decide +kernel⟩, xf_mt 280 (by decide +kernel) rfl, xf_mt 281 (by decide +kernel) rfl⟩
theorem xq_WR_goOn : xf_vir xny_WR_goOn xnc_WR_goOn 1 none 0 := ⟨⟨xf_mt 286 (by decide +kernel) rfl, xf_mt 5 (by decide +kernel) rfl, by decide +kernel, by decide +kernel, by decide +kernel⟩, xf_mt 284 (by decide +kernel) rfl, xf_mt 285 (by decide +kernel) rfl⟩
theorem xq_WR_lookUpKey : xf_vir xny_WR_lookUpKey xnc_WR_lookUpKey 3 none 0 := ⟨⟨xf_mt 290 (by decide +kernel) rfl, xf_mt 5 (by decide +kernel) rfl, by decide +kernel, by decide +kernel, by decide +kernel⟩, xf_mt 289 (by decide +kernel) rfl, xf_ms 0 (by decide +kernel) rfl⟩
theorem xq_ST_lookUp : xf_vir xny_ST_lookUp xnc_ST_lookUp 3 (some .int) 1 := ⟨⟨xf_mt 294 (by decide +kernel) rfl, xf_mt 3 (by decide +kernel) rfl, by decide +kernel, by decide +kernel, by decide +kernel⟩, xf_mt 292 (by decide +kernel) rfl, xf_mt 293 (by decide +kernel) rfl⟩
theorem xq_SC_firstBucket : xf_sta xny_SC_firstBucket xnc_SC_firstBucket 1 (some .int) 1 := ⟨⟨xf_mt 297 (by decide +kernel) rfl, xf_mt 1 (by decide +kernel) rfl, by decide +kernel, by decide +kernel, by decide +kernel⟩, xf_mt 296 (by decide +kernel) rfl⟩
theorem xq_SC_mix : xf_sta xny_SC_mix xnc_SC_mix 1 (some .int) 1 := ⟨⟨xf_mt 300 (by decide +kernel) rfl, xf_mt 1 (by decide +kernel) rfl, by decide +kernel, by decide +kernel, by decide +kernel⟩, xf_mt 299 (by decide +kernel) rfl⟩
theorem xq_ST_lookUpIn : xf_vir xny_ST_lookUpIn xnc_ST_lookUpIn 6 (some .int) 2 := ⟨⟨xf_mt 305 (by decide +kernel) rfl, xf_mt 3 (by decide +kernel) rfl, by decide +kernel, by decide +kernel, by decide +kernel⟩, xf_mt 303 (by decide +kernel) rfl, xf_mt 304 (by decide +kernel) rfl⟩
theorem xq_ST_findIn : xf_vir xny_ST_findIn xnc_ST_findIn 5 (some .int) 2 := ⟨⟨xf_mt 309 (by decide +kernel) rfl, xf_mt 3 (by decide +kernel) rfl, by decide +kernel, by decide +kernel, by decide +kernel⟩, xf_mt 307 (by decide +kernel) rfl, xf_mt 308 (by decide +kernel) rfl⟩
theorem xq_SC_tagOf : xf_sta xny_SC_tagOf xnc_SC_tagOf 1 (some .int) 1 := ⟨⟨xf_mt 312 (by decide +kernel) rfl, xf_mt 1 (by decide +kernel) rfl, by decide +kernel, by decide +kernel, by decide +kernel⟩, xf_mt 311 (by decide +kernel) rfl⟩
theorem xq_SC_secondBucket : xf_sta xny_SC_secondBucket xnc_SC_secondBucket 1 (some .int) 1 := ⟨⟨xf_mt 315 (by decide +kernel) rfl, xf_mt 1 (by decide +kernel) rfl, by decide +kernel, by decide +kernel, by decide +kernel⟩, xf_mt 314 (by decide +kernel) rfl⟩
theorem xq_SC_otherBucket : xf_sta xny_SC_otherBucket xnc_SC_otherBucket 2 (some .int) 2 := ⟨⟨xf_mt 319 (by decide +kernel) rfl, xf_mt 1 (by decide +kernel) rfl, by decide +kernel, by decide +kernel, by decide +kernel⟩, xf_mt 318 (by decide +kernel) rfl⟩
theorem xq_ST_isOver : xf_vir xny_ST_isOver xnc_ST_isOver 2 (some .boolean) 1 := ⟨⟨xf_mt 324 (by decide +kernel) rfl, xf_mt 3 (by decide +kernel) rfl, by decide +kernel, by decide +kernel, by decide +kernel⟩, xf_mt 322 (by decide +kernel) rfl, xf_mt 323 (by decide +kernel) rfl⟩
theorem xq_ST_remove : xf_vir xny_ST_remove xnc_ST_remove 3 none 1 := ⟨⟨xf_mt 328 (by decide +kernel) rfl, xf_mt 3 (by decide +kernel) rfl, by decide +kernel, by decide +kernel, by decide +kernel⟩, xf_mt 326 (by decide +kernel) rfl, xf_mt 327 (by decide +kernel) rfl⟩
theorem xq_ST_growVersion : xf_vir xny_ST_growVersion xnc_ST_growVersion 3 none 2 := ⟨⟨xf_mt 332 (by decide +kernel) rfl, xf_mt 3 (by decide +kernel) rfl, by decide +kernel, by decide +kernel, by decide +kernel⟩, xf_mt 330 (by decide +kernel) rfl, xf_mt 331 (by decide +kernel) rfl⟩
theorem xq_SC_stripeOf : xf_sta xny_SC_stripeOf xnc_SC_stripeOf 1 (some .int) 1 := ⟨⟨xf_mt 335 (by decide +kernel) rfl, xf_mt 1 (by decide +kernel) rfl, by decide +kernel, by decide +kernel, by decide +kernel⟩, xf_mt 334 (by decide +kernel) rfl⟩
theorem xq_WR_chooseWhenFound : xf_vir xny_WR_chooseWhenFound xnc_WR_chooseWhenFound 2 none 1 := ⟨⟨xf_mt 339 (by decide +kernel) rfl, xf_mt 5 (by decide +kernel) rfl, by decide +kernel, by decide +kernel, by decide +kernel⟩, xf_mt 338 (by decide +kernel) rfl, xf_ms 1 (by decide +kernel) rfl⟩
theorem xq_WR_chooseWhenNotFound : xf_vir xny_WR_chooseWhenNotFound xnc_WR_chooseWhenNotFound 1 none 0 := ⟨⟨xf_mt 343 (by decide +kernel) rfl, xf_mt 5 (by decide +kernel) rfl, by decide +kernel, by decide +kernel, by decide +kernel⟩, xf_mt 342 (by decide +kernel) rfl, xf_ms 2 (by decide +kernel) rfl⟩
theorem xq_ST_isFull : xf_vir xny_ST_isFull xnc_ST_isFull 1 (some .boolean) 0 := ⟨⟨xf_mt 347 (by decide +kernel) rfl, xf_mt 3 (by decide +kernel) rfl, by decide +kernel, by decide +kernel, by decide +kernel⟩, xf_mt 345 (by decide +kernel) rfl, xf_mt 346 (by decide +kernel) rfl⟩
theorem xq_WR_changeValue : xf_vir xny_WR_changeValue xnc_WR_changeValue 1 none 0 := ⟨⟨xf_mt 351 (by decide +kernel) rfl, xf_mt 5 (by decide +kernel) rfl, by decide +kernel, by decide +kernel, by decide +kernel⟩, xf_mt 350 (by decide +kernel) rfl, xf_ms 3 (by decide +kernel) rfl⟩
theorem xq_WR_changeToken : xf_vir xny_WR_changeToken xnc_WR_changeToken 1 none 0 := ⟨⟨xf_mt 356 (by decide +kernel) rfl, xf_mt 5 (by decide +kernel) rfl, by decide +kernel, by decide +kernel, by decide +kernel⟩, xf_mt 355 (by decide +kernel) rfl, xf_ms 4 (by decide +kernel) rfl⟩
theorem xq_ST_renew : xf_vir xny_ST_renew xnc_ST_renew 3 none 2 := ⟨⟨xf_mt 360 (by decide +kernel) rfl, xf_mt 3 (by decide +kernel) rfl, by decide +kernel, by decide +kernel, by decide +kernel⟩, xf_mt 358 (by decide +kernel) rfl, xf_mt 359 (by decide +kernel) rfl⟩
theorem xq_WR_evict : xf_vir xny_WR_evict xnc_WR_evict 2 none 0 := ⟨⟨xf_mt 364 (by decide +kernel) rfl, xf_mt 5 (by decide +kernel) rfl, by decide +kernel, by decide +kernel, by decide +kernel⟩, xf_mt 363 (by decide +kernel) rfl, xf_ms 5 (by decide +kernel) rfl⟩
theorem xq_WR_turnHand : xf_vir xny_WR_turnHand xnc_WR_turnHand 1 none 0 := ⟨⟨xf_mt 368 (by decide +kernel) rfl, xf_mt 5 (by decide +kernel) rfl, by decide +kernel, by decide +kernel, by decide +kernel⟩, xf_mt 367 (by decide +kernel) rfl, xf_ms 6 (by decide +kernel) rfl⟩
theorem xq_WR_seekPath : xf_vir xny_WR_seekPath xnc_WR_seekPath 1 none 0 := ⟨⟨xf_mt 372 (by decide +kernel) rfl, xf_mt 5 (by decide +kernel) rfl, by decide +kernel, by decide +kernel, by decide +kernel⟩, xf_mt 371 (by decide +kernel) rfl, xf_ms 7 (by decide +kernel) rfl⟩
theorem xq_PA_seek : xf_vir xny_PA_seek xnc_PA_seek 4 (some .boolean) 1 := ⟨⟨xf_mt 376 (by decide +kernel) rfl, xf_mt 6 (by decide +kernel) rfl, by decide +kernel, by decide +kernel, by decide +kernel⟩, xf_mt 374 (by decide +kernel) rfl, xf_mt 375 (by decide +kernel) rfl⟩
theorem xq_PA_enter : xf_vir xny_PA_enter xnc_PA_enter 6 none 3 := ⟨⟨xf_mt 382 (by decide +kernel) rfl, xf_mt 6 (by decide +kernel) rfl, by decide +kernel, by decide +kernel, by decide +kernel⟩, xf_mt 381 (by decide +kernel) rfl, xf_ms 8 (by decide +kernel) rfl⟩
theorem xq_PA_keep : xf_vir xny_PA_keep xnc_PA_keep 4 none 1 := ⟨⟨xf_mt 387 (by decide +kernel) rfl, xf_mt 6 (by decide +kernel) rfl, by decide +kernel, by decide +kernel, by decide +kernel⟩, xf_mt 386 (by decide +kernel) rfl, xf_ms 9 (by decide +kernel) rfl⟩
theorem xq_WR_chooseMove : xf_vir xny_WR_chooseMove xnc_WR_chooseMove 1 none 0 := ⟨⟨xf_mt 392 (by decide +kernel) rfl, xf_mt 5 (by decide +kernel) rfl, by decide +kernel, by decide +kernel, by decide +kernel⟩, xf_mt 391 (by decide +kernel) rfl, xf_ms 10 (by decide +kernel) rfl⟩
theorem xq_WR_moveOn : xf_vir xny_WR_moveOn xnc_WR_moveOn 2 none 0 := ⟨⟨xf_mt 396 (by decide +kernel) rfl, xf_mt 5 (by decide +kernel) rfl, by decide +kernel, by decide +kernel, by decide +kernel⟩, xf_mt 395 (by decide +kernel) rfl, xf_ms 11 (by decide +kernel) rfl⟩
theorem xq_WR_moveOff : xf_vir xny_WR_moveOff xnc_WR_moveOff 2 none 0 := ⟨⟨xf_mt 400 (by decide +kernel) rfl, xf_mt 5 (by decide +kernel) rfl, by decide +kernel, by decide +kernel, by decide +kernel⟩, xf_mt 399 (by decide +kernel) rfl, xf_ms 12 (by decide +kernel) rfl⟩
theorem xq_WR_insertKey : xf_vir xny_WR_insertKey xnc_WR_insertKey 1 none 0 := ⟨⟨xf_mt 404 (by decide +kernel) rfl, xf_mt 5 (by decide +kernel) rfl, by decide +kernel, by decide +kernel, by decide +kernel⟩, xf_mt 403 (by decide +kernel) rfl, xf_ms 13 (by decide +kernel) rfl⟩
theorem xq_ST_insert : xf_vir xny_ST_insert xnc_ST_insert 6 none 4 := ⟨⟨xf_mt 408 (by decide +kernel) rfl, xf_mt 3 (by decide +kernel) rfl, by decide +kernel, by decide +kernel, by decide +kernel⟩, xf_mt 406 (by decide +kernel) rfl, xf_mt 407 (by decide +kernel) rfl⟩
theorem xq_ST_lowestFree : xf_vir xny_ST_lowestFree xnc_ST_lowestFree 2 (some .int) 0 := ⟨⟨xf_mt 412 (by decide +kernel) rfl, xf_mt 3 (by decide +kernel) rfl, by decide +kernel, by decide +kernel, by decide +kernel⟩, xf_mt 410 (by decide +kernel) rfl, xf_mt 411 (by decide +kernel) rfl⟩
theorem xq_SC_outcome : xf_vir xny_SC_outcome xnc_SC_outcome 1 (some .int) 0 := ⟨⟨xf_mt 417 (by decide +kernel) rfl, xf_mt 1 (by decide +kernel) rfl, by decide +kernel, by decide +kernel, by decide +kernel⟩, xf_mt 415 (by decide +kernel) rfl, xf_mt 416 (by decide +kernel) rfl⟩
theorem xq_SC_get : xf_vir xny_SC_get xnc_SC_get 3 (some .boolean) 2 := ⟨⟨xf_mt 421 (by decide +kernel) rfl, xf_mt 1 (by decide +kernel) rfl, by decide +kernel, by decide +kernel, by decide +kernel⟩, xf_mt 419 (by decide +kernel) rfl, xf_mt 420 (by decide +kernel) rfl⟩
theorem xq_SC_isReader : xf_sta xny_SC_isReader xnc_SC_isReader 1 (some .boolean) 1 := ⟨⟨xf_mt 424 (by decide +kernel) rfl, xf_mt 1 (by decide +kernel) rfl, by decide +kernel, by decide +kernel, by decide +kernel⟩, xf_mt 423 (by decide +kernel) rfl⟩
theorem xq_RD_isUnderWay : xf_vir xny_RD_isUnderWay xnc_RD_isUnderWay 1 (some .boolean) 0 := ⟨⟨xf_mt 428 (by decide +kernel) rfl, xf_mt 7 (by decide +kernel) rfl, by decide +kernel, by decide +kernel, by decide +kernel⟩, xf_mt 426 (by decide +kernel) rfl, xf_mt 427 (by decide +kernel) rfl⟩
theorem xq_RD_begin : xf_vir xny_RD_begin xnc_RD_begin 2 none 1 := ⟨⟨xf_mt 433 (by decide +kernel) rfl, xf_mt 7 (by decide +kernel) rfl, by decide +kernel, by decide +kernel, by decide +kernel⟩, xf_mt 431 (by decide +kernel) rfl, xf_mt 432 (by decide +kernel) rfl⟩
theorem xq_SC_step : xf_vir xny_SC_step xnc_SC_step 2 (some .int) 1 := ⟨⟨xf_mt 437 (by decide +kernel) rfl, xf_mt 1 (by decide +kernel) rfl, by decide +kernel, by decide +kernel, by decide +kernel⟩, xf_mt 435 (by decide +kernel) rfl, xf_mt 436 (by decide +kernel) rfl⟩
theorem xq_RD_goOn : xf_vir xny_RD_goOn xnc_RD_goOn 1 none 0 := ⟨⟨xf_mt 441 (by decide +kernel) rfl, xf_mt 7 (by decide +kernel) rfl, by decide +kernel, by decide +kernel, by decide +kernel⟩, xf_mt 439 (by decide +kernel) rfl, xf_mt 440 (by decide +kernel) rfl⟩
theorem xq_RD_keepVersion : xf_vir xny_RD_keepVersion xnc_RD_keepVersion 1 none 0 := ⟨⟨xf_mt 445 (by decide +kernel) rfl, xf_mt 7 (by decide +kernel) rfl, by decide +kernel, by decide +kernel, by decide +kernel⟩, xf_mt 444 (by decide +kernel) rfl, xf_ms 14 (by decide +kernel) rfl⟩
theorem xq_ST_versionFor : xf_vir xny_ST_versionFor xnc_ST_versionFor 2 (some .int) 1 := ⟨⟨xf_mt 449 (by decide +kernel) rfl, xf_mt 3 (by decide +kernel) rfl, by decide +kernel, by decide +kernel, by decide +kernel⟩, xf_mt 447 (by decide +kernel) rfl, xf_mt 448 (by decide +kernel) rfl⟩
theorem xq_RD_lookInto : xf_vir xny_RD_lookInto xnc_RD_lookInto 4 none 2 := ⟨⟨xf_mt 454 (by decide +kernel) rfl, xf_mt 7 (by decide +kernel) rfl, by decide +kernel, by decide +kernel, by decide +kernel⟩, xf_mt 453 (by decide +kernel) rfl, xf_ms 15 (by decide +kernel) rfl⟩
theorem xq_RD_copyItem : xf_vir xny_RD_copyItem xnc_RD_copyItem 1 none 0 := ⟨⟨xf_mt 460 (by decide +kernel) rfl, xf_mt 7 (by decide +kernel) rfl, by decide +kernel, by decide +kernel, by decide +kernel⟩, xf_mt 459 (by decide +kernel) rfl, xf_ms 16 (by decide +kernel) rfl⟩
theorem xq_RD_checkVersion : xf_vir xny_RD_checkVersion xnc_RD_checkVersion 1 none 0 := ⟨⟨xf_mt 464 (by decide +kernel) rfl, xf_mt 7 (by decide +kernel) rfl, by decide +kernel, by decide +kernel, by decide +kernel⟩, xf_mt 463 (by decide +kernel) rfl, xf_ms 17 (by decide +kernel) rfl⟩
theorem xq_RD_end : xf_vir xny_RD_end xnc_RD_end 2 none 1 := ⟨⟨xf_mt 469 (by decide +kernel) rfl, xf_mt 7 (by decide +kernel) rfl, by decide +kernel, by decide +kernel, by decide +kernel⟩, xf_mt 468 (by decide +kernel) rfl, xf_ms 18 (by decide +kernel) rfl⟩
theorem xq_RD_readLocked : xf_vir xny_RD_readLocked xnc_RD_readLocked 2 none 0 := ⟨⟨xf_mt 473 (by decide +kernel) rfl, xf_mt 7 (by decide +kernel) rfl, by decide +kernel, by decide +kernel, by decide +kernel⟩, xf_mt 472 (by decide +kernel) rfl, xf_ms 19 (by decide +kernel) rfl⟩
theorem xq_SC_state : xf_vir xny_SC_state xnc_SC_state 2 (some .int) 1 := ⟨⟨xf_mt 479 (by decide +kernel) rfl, xf_mt 1 (by decide +kernel) rfl, by decide +kernel, by decide +kernel, by decide +kernel⟩, xf_mt 477 (by decide +kernel) rfl, xf_mt 478 (by decide +kernel) rfl⟩
theorem xq_SC_value : xf_vir xny_SC_value xnc_SC_value 2 (some .int) 1 := ⟨⟨xf_mt 483 (by decide +kernel) rfl, xf_mt 1 (by decide +kernel) rfl, by decide +kernel, by decide +kernel, by decide +kernel⟩, xf_mt 481 (by decide +kernel) rfl, xf_mt 482 (by decide +kernel) rfl⟩
theorem xq_SC_isHit : xf_vir xny_SC_isHit xnc_SC_isHit 2 (some .boolean) 1 := ⟨⟨xf_mt 487 (by decide +kernel) rfl, xf_mt 1 (by decide +kernel) rfl, by decide +kernel, by decide +kernel, by decide +kernel⟩, xf_mt 486 (by decide +kernel) rfl, xf_ms 20 (by decide +kernel) rfl⟩
theorem xq_SC_token : xf_vir xny_SC_token xnc_SC_token 2 (some .int) 1 := ⟨⟨xf_mt 491 (by decide +kernel) rfl, xf_mt 1 (by decide +kernel) rfl, by decide +kernel, by decide +kernel, by decide +kernel⟩, xf_mt 489 (by decide +kernel) rfl, xf_mt 490 (by decide +kernel) rfl⟩
theorem xq_SC_pass : xf_vir xny_SC_pass xnc_SC_pass 2 (some .boolean) 1 := ⟨⟨xf_mt 495 (by decide +kernel) rfl, xf_mt 1 (by decide +kernel) rfl, by decide +kernel, by decide +kernel, by decide +kernel⟩, xf_mt 493 (by decide +kernel) rfl, xf_mt 494 (by decide +kernel) rfl⟩
theorem xq_SC_where : xf_vir xny_SC_where xnc_SC_where 2 (some .int) 1 := ⟨⟨xf_mt 499 (by decide +kernel) rfl, xf_mt 1 (by decide +kernel) rfl, by decide +kernel, by decide +kernel, by decide +kernel⟩, xf_mt 497 (by decide +kernel) rfl, xf_mt 498 (by decide +kernel) rfl⟩
theorem xq_ST_find : xf_vir xny_ST_find xnc_ST_find 3 (some .int) 1 := ⟨⟨xf_mt 503 (by decide +kernel) rfl, xf_mt 3 (by decide +kernel) rfl, by decide +kernel, by decide +kernel, by decide +kernel⟩, xf_mt 501 (by decide +kernel) rfl, xf_mt 502 (by decide +kernel) rfl⟩
theorem xq_SC_at : xf_vir xny_SC_at xnc_SC_at 2 (some .int) 1 := ⟨⟨xf_mt 507 (by decide +kernel) rfl, xf_mt 1 (by decide +kernel) rfl, by decide +kernel, by decide +kernel, by decide +kernel⟩, xf_mt 505 (by decide +kernel) rfl, xf_mt 506 (by decide +kernel) rfl⟩
theorem xq_SC_item : xf_vir xny_SC_item xnc_SC_item 3 (some .int) 2 := ⟨⟨xf_mt 511 (by decide +kernel) rfl, xf_mt 1 (by decide +kernel) rfl, by decide +kernel, by decide +kernel, by decide +kernel⟩, xf_mt 509 (by decide +kernel) rfl, xf_mt 510 (by decide +kernel) rfl⟩
theorem xq_SC_isUsedItem : xf_vir xny_SC_isUsedItem xnc_SC_isUsedItem 2 (some .boolean) 1 := ⟨⟨xf_mt 515 (by decide +kernel) rfl, xf_mt 1 (by decide +kernel) rfl, by decide +kernel, by decide +kernel, by decide +kernel⟩, xf_mt 514 (by decide +kernel) rfl, xf_ms 21 (by decide +kernel) rfl⟩
theorem xq_SC_used : xf_vir xny_SC_used xnc_SC_used 2 (some .boolean) 1 := ⟨⟨xf_mt 519 (by decide +kernel) rfl, xf_mt 1 (by decide +kernel) rfl, by decide +kernel, by decide +kernel, by decide +kernel⟩, xf_mt 517 (by decide +kernel) rfl, xf_mt 518 (by decide +kernel) rfl⟩
theorem xq_SC_version : xf_vir xny_SC_version xnc_SC_version 2 (some .int) 1 := ⟨⟨xf_mt 523 (by decide +kernel) rfl, xf_mt 1 (by decide +kernel) rfl, by decide +kernel, by decide +kernel, by decide +kernel⟩, xf_mt 521 (by decide +kernel) rfl, xf_mt 522 (by decide +kernel) rfl⟩
theorem xq_SC_hash : xf_vir xny_SC_hash xnc_SC_hash 2 (some .int) 1 := ⟨⟨xf_mt 527 (by decide +kernel) rfl, xf_mt 1 (by decide +kernel) rfl, by decide +kernel, by decide +kernel, by decide +kernel⟩, xf_mt 525 (by decide +kernel) rfl, xf_mt 526 (by decide +kernel) rfl⟩
theorem xq_SC_count : xf_vir xny_SC_count xnc_SC_count 2 (some .int) 1 := ⟨⟨xf_mt 533 (by decide +kernel) rfl, xf_mt 1 (by decide +kernel) rfl, by decide +kernel, by decide +kernel, by decide +kernel⟩, xf_mt 531 (by decide +kernel) rfl, xf_mt 532 (by decide +kernel) rfl⟩
theorem xq_LW_cell : xf_sta xny_LW_cell xnc_LW_cell 2 (some .int) 2 := ⟨⟨xf_mt 536 (by decide +kernel) rfl, xf_mt 0 (by decide +kernel) rfl, by decide +kernel, by decide +kernel, by decide +kernel⟩, xf_mt 535 (by decide +kernel) rfl⟩
theorem xq_MO_hash : xf_vir xny_MO_hash xnc_MO_hash 2 (some .int) 1 := ⟨⟨xf_mt 661 (by decide +kernel) rfl, xf_mt 8 (by decide +kernel) rfl, by decide +kernel, by decide +kernel, by decide +kernel⟩, xf_mt 659 (by decide +kernel) rfl, xf_mt 660 (by decide +kernel) rfl⟩
theorem xq_MO_bucket : xf_sta xny_MO_bucket xnc_MO_bucket 3 (some .int) 2 := ⟨⟨xf_mt 664 (by decide +kernel) rfl, xf_mt 8 (by decide +kernel) rfl, by decide +kernel, by decide +kernel, by decide +kernel⟩, xf_mt 663 (by decide +kernel) rfl⟩
theorem xq_MO_mix : xf_sta xny_MO_mix xnc_MO_mix 1 (some .int) 1 := ⟨⟨xf_mt 667 (by decide +kernel) rfl, xf_mt 8 (by decide +kernel) rfl, by decide +kernel, by decide +kernel, by decide +kernel⟩, xf_mt 666 (by decide +kernel) rfl⟩
theorem xq_MO_tag : xf_sta xny_MO_tag xnc_MO_tag 1 (some .int) 1 := ⟨⟨xf_mt 671 (by decide +kernel) rfl, xf_mt 8 (by decide +kernel) rfl, by decide +kernel, by decide +kernel, by decide +kernel⟩, xf_mt 670 (by decide +kernel) rfl⟩
theorem xq_MO_stripe : xf_sta xny_MO_stripe xnc_MO_stripe 1 (some .int) 1 := ⟨⟨xf_mt 674 (by decide +kernel) rfl, xf_mt 8 (by decide +kernel) rfl, by decide +kernel, by decide +kernel, by decide +kernel⟩, xf_mt 673 (by decide +kernel) rfl⟩
theorem xq_MO_where : xf_vir xny_MO_where xnc_MO_where 3 (some .int) 1 := ⟨⟨xf_mt 678 (by decide +kernel) rfl, xf_mt 8 (by decide +kernel) rfl, by decide +kernel, by decide +kernel, by decide +kernel⟩, xf_mt 676 (by decide +kernel) rfl, xf_mt 677 (by decide +kernel) rfl⟩
theorem xq_MO_search : xf_vir xny_MO_search xnc_MO_search 6 (some .int) 2 := ⟨⟨xf_mt 682 (by decide +kernel) rfl, xf_mt 8 (by decide +kernel) rfl, by decide +kernel, by decide +kernel, by decide +kernel⟩, xf_mt 681 (by decide +kernel) rfl, xf_ms 22 (by decide +kernel) rfl⟩
theorem xq_MO_write : xf_vir xny_MO_write xnc_MO_write 6 (some .boolean) 5 := ⟨⟨xf_mt 686 (by decide +kernel) rfl, xf_mt 8 (by decide +kernel) rfl, by decide +kernel, by decide +kernel, by decide +kernel⟩, xf_mt 684 (by decide +kernel) rfl, xf_mt 685 (by decide +kernel) rfl⟩
theorem xq_MO_work : xf_vir xny_MO_work xnc_MO_work 3 (some .int) 1 := ⟨⟨xf_mt 690 (by decide +kernel) rfl, xf_mt 8 (by decide +kernel) rfl, by decide +kernel, by decide +kernel, by decide +kernel⟩, xf_mt 688 (by decide +kernel) rfl, xf_mt 689 (by decide +kernel) rfl⟩
theorem xq_MO_one : xf_vir xny_MO_one xnc_MO_one 1 none 0 := ⟨⟨xf_mt 694 (by decide +kernel) rfl, xf_mt 8 (by decide +kernel) rfl, by decide +kernel, by decide +kernel, by decide +kernel⟩, xf_mt 693 (by decide +kernel) rfl, xf_ms 23 (by decide +kernel) rfl⟩
theorem xq_MO_begin : xf_vir xny_MO_begin xnc_MO_begin 3 none 0 := ⟨⟨xf_mt 698 (by decide +kernel) rfl, xf_mt 8 (by decide +kernel) rfl, by decide +kernel, by decide +kernel, by decide +kernel⟩, xf_mt 697 (by decide +kernel) rfl, xf_ms 24 (by decide +kernel) rfl⟩
theorem xq_MO_lookBoth : xf_vir xny_MO_lookBoth xnc_MO_lookBoth 3 (some .int) 1 := ⟨⟨xf_mt 702 (by decide +kernel) rfl, xf_mt 8 (by decide +kernel) rfl, by decide +kernel, by decide +kernel, by decide +kernel⟩, xf_mt 701 (by decide +kernel) rfl, xf_ms 25 (by decide +kernel) rfl⟩
theorem xq_MO_look : xf_vir xny_MO_look xnc_MO_look 7 (some .int) 2 := ⟨⟨xf_mt 706 (by decide +kernel) rfl, xf_mt 8 (by decide +kernel) rfl, by decide +kernel, by decide +kernel, by decide +kernel⟩, xf_mt 705 (by decide +kernel) rfl, xf_ms 26 (by decide +kernel) rfl⟩
theorem xq_MO_over : xf_vir xny_MO_over xnc_MO_over 2 (some .boolean) 1 := ⟨⟨xf_mt 710 (by decide +kernel) rfl, xf_mt 8 (by decide +kernel) rfl, by decide +kernel, by decide +kernel, by decide +kernel⟩, xf_mt 709 (by decide +kernel) rfl, xf_ms 27 (by decide +kernel) rfl⟩
theorem xq_MO_remove : xf_vir xny_MO_remove xnc_MO_remove 3 none 1 := ⟨⟨xf_mt 714 (by decide +kernel) rfl, xf_mt 8 (by decide +kernel) rfl, by decide +kernel, by decide +kernel, by decide +kernel⟩, xf_mt 713 (by decide +kernel) rfl, xf_ms 28 (by decide +kernel) rfl⟩
theorem xq_MO_finish : xf_vir xny_MO_finish xnc_MO_finish 2 none 1 := ⟨⟨xf_mt 718 (by decide +kernel) rfl, xf_mt 8 (by decide +kernel) rfl, by decide +kernel, by decide +kernel, by decide +kernel⟩, xf_mt 717 (by decide +kernel) rfl, xf_ms 29 (by decide +kernel) rfl⟩
theorem xq_MO_many : xf_vir xny_MO_many xnc_MO_many 3 (some .int) 0 := ⟨⟨xf_mt 722 (by decide +kernel) rfl, xf_mt 8 (by decide +kernel) rfl, by decide +kernel, by decide +kernel, by decide +kernel⟩, xf_mt 721 (by decide +kernel) rfl, xf_ms 30 (by decide +kernel) rfl⟩
theorem xq_MO_stamp : xf_vir xny_MO_stamp xnc_MO_stamp 2 none 1 := ⟨⟨xf_mt 726 (by decide +kernel) rfl, xf_mt 8 (by decide +kernel) rfl, by decide +kernel, by decide +kernel, by decide +kernel⟩, xf_mt 725 (by decide +kernel) rfl, xf_ms 31 (by decide +kernel) rfl⟩
theorem xq_MO_evict : xf_vir xny_MO_evict xnc_MO_evict 2 none 0 := ⟨⟨xf_mt 730 (by decide +kernel) rfl, xf_mt 8 (by decide +kernel) rfl, by decide +kernel, by decide +kernel, by decide +kernel⟩, xf_mt 729 (by decide +kernel) rfl, xf_ms 32 (by decide +kernel) rfl⟩
theorem xq_MO_seek : xf_vir xny_MO_seek xnc_MO_seek 4 none 0 := ⟨⟨xf_mt 734 (by decide +kernel) rfl, xf_mt 8 (by decide +kernel) rfl, by decide +kernel, by decide +kernel, by decide +kernel⟩, xf_mt 733 (by decide +kernel) rfl, xf_ms 33 (by decide +kernel) rfl⟩
theorem xq_MO_leads : xf_vir xny_MO_leads xnc_MO_leads 9 (some .boolean) 2 := ⟨⟨xf_mt 738 (by decide +kernel) rfl, xf_mt 8 (by decide +kernel) rfl, by decide +kernel, by decide +kernel, by decide +kernel⟩, xf_mt 737 (by decide +kernel) rfl, xf_ms 34 (by decide +kernel) rfl⟩
theorem xq_MO_move : xf_vir xny_MO_move xnc_MO_move 2 none 0 := ⟨⟨xf_mt 742 (by decide +kernel) rfl, xf_mt 8 (by decide +kernel) rfl, by decide +kernel, by decide +kernel, by decide +kernel⟩, xf_mt 741 (by decide +kernel) rfl, xf_ms 35 (by decide +kernel) rfl⟩
theorem xq_MO_enter : xf_vir xny_MO_enter xnc_MO_enter 2 none 0 := ⟨⟨xf_mt 746 (by decide +kernel) rfl, xf_mt 8 (by decide +kernel) rfl, by decide +kernel, by decide +kernel, by decide +kernel⟩, xf_mt 745 (by decide +kernel) rfl, xf_ms 36 (by decide +kernel) rfl⟩
theorem xq_MO_outcome : xf_vir xny_MO_outcome xnc_MO_outcome 1 (some .int) 0 := ⟨⟨xf_mt 750 (by decide +kernel) rfl, xf_mt 8 (by decide +kernel) rfl, by decide +kernel, by decide +kernel, by decide +kernel⟩, xf_mt 748 (by decide +kernel) rfl, xf_mt 749 (by decide +kernel) rfl⟩
theorem xq_MO_get : xf_vir xny_MO_get xnc_MO_get 3 (some .boolean) 2 := ⟨⟨xf_mt 754 (by decide +kernel) rfl, xf_mt 8 (by decide +kernel) rfl, by decide +kernel, by decide +kernel, by decide +kernel⟩, xf_mt 752 (by decide +kernel) rfl, xf_mt 753 (by decide +kernel) rfl⟩
theorem xq_MO_reader : xf_sta xny_MO_reader xnc_MO_reader 1 (some .boolean) 1 := ⟨⟨xf_mt 757 (by decide +kernel) rfl, xf_mt 8 (by decide +kernel) rfl, by decide +kernel, by decide +kernel, by decide +kernel⟩, xf_mt 756 (by decide +kernel) rfl⟩
theorem xq_MO_reading : xf_vir xny_MO_reading xnc_MO_reading 2 (some .boolean) 1 := ⟨⟨xf_mt 761 (by decide +kernel) rfl, xf_mt 8 (by decide +kernel) rfl, by decide +kernel, by decide +kernel, by decide +kernel⟩, xf_mt 760 (by decide +kernel) rfl, xf_ms 37 (by decide +kernel) rfl⟩
theorem xq_MO_step : xf_vir xny_MO_step xnc_MO_step 3 (some .int) 1 := ⟨⟨xf_mt 765 (by decide +kernel) rfl, xf_mt 8 (by decide +kernel) rfl, by decide +kernel, by decide +kernel, by decide +kernel⟩, xf_mt 763 (by decide +kernel) rfl, xf_mt 764 (by decide +kernel) rfl⟩
theorem xq_MO_keep : xf_vir xny_MO_keep xnc_MO_keep 3 none 2 := ⟨⟨xf_mt 769 (by decide +kernel) rfl, xf_mt 8 (by decide +kernel) rfl, by decide +kernel, by decide +kernel, by decide +kernel⟩, xf_mt 768 (by decide +kernel) rfl, xf_ms 38 (by decide +kernel) rfl⟩
theorem xq_MO_find : xf_vir xny_MO_find xnc_MO_find 4 none 2 := ⟨⟨xf_mt 773 (by decide +kernel) rfl, xf_mt 8 (by decide +kernel) rfl, by decide +kernel, by decide +kernel, by decide +kernel⟩, xf_mt 772 (by decide +kernel) rfl, xf_ms 39 (by decide +kernel) rfl⟩
theorem xq_MO_copy : xf_vir xny_MO_copy xnc_MO_copy 3 none 1 := ⟨⟨xf_mt 777 (by decide +kernel) rfl, xf_mt 8 (by decide +kernel) rfl, by decide +kernel, by decide +kernel, by decide +kernel⟩, xf_mt 776 (by decide +kernel) rfl, xf_ms 40 (by decide +kernel) rfl⟩
theorem xq_MO_check : xf_vir xny_MO_check xnc_MO_check 3 none 1 := ⟨⟨xf_mt 781 (by decide +kernel) rfl, xf_mt 8 (by decide +kernel) rfl, by decide +kernel, by decide +kernel, by decide +kernel⟩, xf_mt 780 (by decide +kernel) rfl, xf_ms 41 (by decide +kernel) rfl⟩
theorem xq_MO_locked : xf_vir xny_MO_locked xnc_MO_locked 5 none 1 := ⟨⟨xf_mt 785 (by decide +kernel) rfl, xf_mt 8 (by decide +kernel) rfl, by decide +kernel, by decide +kernel, by decide +kernel⟩, xf_mt 784 (by decide +kernel) rfl, xf_ms 42 (by decide +kernel) rfl⟩
theorem xq_MO_state : xf_vir xny_MO_state xnc_MO_state 2 (some .int) 1 := ⟨⟨xf_mt 789 (by decide +kernel) rfl, xf_mt 8 (by decide +kernel) rfl, by decide +kernel, by decide +kernel, by decide +kernel⟩, xf_mt 787 (by decide +kernel) rfl, xf_mt 788 (by decide +kernel) rfl⟩
theorem xq_MO_value : xf_vir xny_MO_value xnc_MO_value 2 (some .int) 1 := ⟨⟨xf_mt 793 (by decide +kernel) rfl, xf_mt 8 (by decide +kernel) rfl, by decide +kernel, by decide +kernel, by decide +kernel⟩, xf_mt 791 (by decide +kernel) rfl, xf_mt 792 (by decide +kernel) rfl⟩
theorem xq_MO_token : xf_vir xny_MO_token xnc_MO_token 2 (some .int) 1 := ⟨⟨xf_mt 797 (by decide +kernel) rfl, xf_mt 8 (by decide +kernel) rfl, by decide +kernel, by decide +kernel, by decide +kernel⟩, xf_mt 795 (by decide +kernel) rfl, xf_mt 796 (by decide +kernel) rfl⟩
theorem xq_MO_pass : xf_vir xny_MO_pass xnc_MO_pass 2 (some .boolean) 1 := ⟨⟨xf_mt 801 (by decide +kernel) rfl, xf_mt 8 (by decide +kernel) rfl, by decide +kernel, by decide +kernel, by decide +kernel⟩, xf_mt 799 (by decide +kernel) rfl, xf_mt 800 (by decide +kernel) rfl⟩
theorem xq_MO_at : xf_vir xny_MO_at xnc_MO_at 2 (some .int) 1 := ⟨⟨xf_mt 805 (by decide +kernel) rfl, xf_mt 8 (by decide +kernel) rfl, by decide +kernel, by decide +kernel, by decide +kernel⟩, xf_mt 803 (by decide +kernel) rfl, xf_mt 804 (by decide +kernel) rfl⟩
theorem xq_MO_used : xf_vir xny_MO_used xnc_MO_used 2 (some .boolean) 1 := ⟨⟨xf_mt 809 (by decide +kernel) rfl, xf_mt 8 (by decide +kernel) rfl, by decide +kernel, by decide +kernel, by decide +kernel⟩, xf_mt 807 (by decide +kernel) rfl, xf_mt 808 (by decide +kernel) rfl⟩
theorem xq_MO_item : xf_vir xny_MO_item xnc_MO_item 3 (some .int) 2 := ⟨⟨xf_mt 813 (by decide +kernel) rfl, xf_mt 8 (by decide +kernel) rfl, by decide +kernel, by decide +kernel, by decide +kernel⟩, xf_mt 811 (by decide +kernel) rfl, xf_mt 812 (by decide +kernel) rfl⟩
theorem xq_MO_version : xf_vir xny_MO_version xnc_MO_version 2 (some .int) 1 := ⟨⟨xf_mt 817 (by decide +kernel) rfl, xf_mt 8 (by decide +kernel) rfl, by decide +kernel, by decide +kernel, by decide +kernel⟩, xf_mt 815 (by decide +kernel) rfl, xf_mt 816 (by decide +kernel) rfl⟩
theorem xq_MO_count : xf_vir xny_MO_count xnc_MO_count 2 (some .int) 1 := ⟨⟨xf_mt 821 (by decide +kernel) rfl, xf_mt 8 (by decide +kernel) rfl, by decide +kernel, by decide +kernel, by decide +kernel⟩, xf_mt 819 (by decide +kernel) rfl, xf_mt 820 (by decide +kernel) rfl⟩
