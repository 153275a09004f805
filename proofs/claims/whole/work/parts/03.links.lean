theorem x_ft_ok : x_ft.all (fun r => x_at r.2.2.2 (.fieldLink (x_cn r.1) r.2.1 (x_fd r.2.2.1).1 (x_fd r.2.2.1).2.1 (x_fd r.2.2.1).2.2)) = true := by decide +kernel
theorem x_sf_ok : x_sf.all (fun r => x_at r.2.2.2 (.fieldLink (x_cn r.1) r.2.1 (x_sd r.2.2.1).1 (x_sd r.2.2.1).2.1 (x_sd r.2.2.1).2.2)) = true := by decide +kernel
/-- words that hold from the start but are handed on by hand -/
def x_ne : List (Nat × Nat × Nat) := (x_ct.filter fun r => r.2.2.2.1 == 3).map fun r => (r.2.1, r.2.2.1, r.2.2.2.2)
theorem x_ne_ok : x_ne.all (fun r => decide (lw_tbl[r.2.2]? = some (.methodLinkNest "WindowCards" r.1 (x_nm r.2.1) "WindowCards"))) = true := by decide +kernel
theorem x_ct_ok : x_ct.all (fun r => decide (r.2.2.1 < x_nm_all) && (if r.2.2.2.1 = 3 then decide (x_kd r.2.2.1 = 2) && decide (r.1 = 5) else decide (x_kd r.2.2.1 = r.2.2.2.1) && x_at r.2.2.2.2 (.methodLink (x_cn r.1) r.2.1 (x_nm r.2.2.1)))) = true := by decide +kernel
theorem x_oi_ok : x_oi.all (fun r => x_at r.2.2 (.methodLink (x_cn r.1) r.2.1 Lib.objectInit)) = true := by decide +kernel
theorem x_ac_ok : x_ac.all (fun r => x_at r.2.2 (.methodLink (x_cn r.1) r.2.1 arraycopyName)) = true := by decide +kernel
theorem x_kt_ok : x_kt.all (fun r => x_at r.2.2.2 (.constant (x_cn r.1) r.2.1 r.2.2.1)) = true := by decide +kernel
theorem x_kl_ok : x_kl.all (fun r => x_at r.2.2.2 (.constantLong (x_cn r.1) r.2.1 (Int64.ofNat r.2.2.1))) = true := by decide +kernel
theorem x_nt_ok : x_nt.all (fun r => decide (r.2.2.1 < 7) && x_at r.2.2.2.1 (.classLink (x_cn r.1) r.2.1 (x_cn r.2.2.1)) && x_at r.2.2.2.2.1 (.instantiable (x_cn r.2.2.1) (x_N r.2.2.1)) && x_at r.2.2.2.2.2 (.initialized (x_cn r.2.2.1))) = true := by decide +kernel
theorem x_ao_ok : (decide (lw_tbl[x_aoR]? = some (.arrayOver (.object RX2))) && decide (lw_tbl[x_aoG]? = some (.arrayOver (.object RX0))) && x_at x_aci (.arrayClass .int)) = true := by decide +kernel
theorem x_oj_ok : (x_at x_oiI (.instanceMethod Lib.objectInit) && x_at x_oiC (.code Lib.objectInit ⟨#[0xb1]⟩ 1 none)) = true := by decide +kernel
theorem x_an_ok : (x_at x_acN (.native arraycopyName) && x_at x_acS (.static arraycopyName) && x_at x_acI (.initialized "java/lang/System")) = true := by decide +kernel
