/-! ===== on the fresh memories ===== -/
theorem pe_bestPlace : (fWB_bestPlace zm0 zfr0 zfr0 zm0).map (fun a => a.1) = some 0 := by decide +kernel
theorem pe_digest : (fWB_digest zm0 zfr0 zfr0 zm0).isSome = true := by decide +kernel
theorem pe_run : (fMS_run 3 zfr3).map (fun a => a.1) = some 0 := by decide +kernel
