/-! Words of the catches (written by gen_law.py). -/
theorem wl_13 : Cond.classLink "PreferTableLaw" 13 "java/lang/IllegalStateException" ∈ lw_tbl := ev_mem 340 (by decide +kernel)
theorem wl_24 : Cond.classLink "PreferTableLaw" 24 "java/lang/IllegalArgumentException" ∈ lw_tbl := ev_mem 448 (by decide +kernel)
theorem wl_19 : Cond.classLink "PreferTableLaw" 19 "java/lang/IndexOutOfBoundsException" ∈ lw_tbl := ev_mem 424 (by decide +kernel)
theorem wc_11 : Cond.castable "java/lang/IllegalStateException" "java/lang/IllegalStateException" ∈ lw_tbl := ev_mem 351 (by decide +kernel)
theorem wc_12 : Cond.castable "java/lang/IllegalArgumentException" "java/lang/IllegalArgumentException" ∈ lw_tbl := ev_mem 455 (by decide +kernel)
theorem wc_13 : Cond.castable "java/lang/IndexOutOfBoundsException" "java/lang/IndexOutOfBoundsException" ∈ lw_tbl := ev_mem 431 (by decide +kernel)
