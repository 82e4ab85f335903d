/-! Words that the law needs. -/
theorem xkC_LW_7 : Cond.classLink xnR_LW 7 xnR_SC ∈ xf_GW := xf_mt 9 (by decide +kernel) (by decide +kernel)
theorem xkC_LW_18 : Cond.classLink xnR_LW 18 xnR_MO ∈ xf_GW := xf_mt 537 (by decide +kernel) (by decide +kernel)
theorem xkI_MO : Cond.instantiable xnR_MO 38 ∈ xf_GW := xf_mt 538 (by decide +kernel) (by decide +kernel)
theorem xkZ_MO : Cond.initialized xnR_MO ∈ xf_GW := xf_mt 8 (by decide +kernel) (by decide +kernel)
theorem xkI_SC : Cond.instantiable xnR_SC 4 ∈ xf_GW := xf_mt 10 (by decide +kernel) (by decide +kernel)
theorem xkZ_SC : Cond.initialized xnR_SC ∈ xf_GW := xf_mt 1 (by decide +kernel) (by decide +kernel)
theorem xgi_SC : xg_ini xny_SC_init xnc_SC_init 4 2 := ⟨⟨xf_mt 13 (by decide +kernel) rfl, xf_mt 1 (by decide +kernel) rfl, by decide +kernel, by decide +kernel, by decide +kernel⟩, xf_mt 12 (by decide +kernel) rfl, rfl⟩
theorem xgi_MO : xg_ini xny_MO_init xnc_MO_init 3 2 := ⟨⟨xf_mt 541 (by decide +kernel) rfl, xf_mt 8 (by decide +kernel) rfl, by decide +kernel, by decide +kernel, by decide +kernel⟩, xf_mt 540 (by decide +kernel) rfl, rfl⟩
theorem xl_AO {args : Array Value} {s : State} (hts : ∀ w ∈ lw_tbl, w.before args s = true) : va_AO xnR_RD s := hts (.arrayOver (.object xnR_RD)) (List.mem_append_right _ (List.mem_of_getElem? (i := 211) (by decide +kernel)))
