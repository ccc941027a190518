theorem am_kc28 : (am_PT.getD 28 []).all (fun B => am_ckL am_PP am_YY 28 B.2) = true := by decide +kernel
theorem am_ke28 : am_ent am_PP am_YY 28 = true := by decide +kernel
theorem am_kc29 : (am_PT.getD 29 []).all (fun B => am_ckL am_PP am_YY 29 B.2) = true := by decide +kernel
theorem am_ke29 : am_ent am_PP am_YY 29 = true := by decide +kernel
theorem am_kc30 : (am_PT.getD 30 []).all (fun B => am_ckL am_PP am_YY 30 B.2) = true := by decide +kernel
theorem am_ke30 : am_ent am_PP am_YY 30 = true := by decide +kernel
theorem am_kc31 : (am_PT.getD 31 []).all (fun B => am_ckL am_PP am_YY 31 B.2) = true := by decide +kernel
theorem am_ke31 : am_ent am_PP am_YY 31 = true := by decide +kernel
theorem am_kc32 : (am_PT.getD 32 []).all (fun B => am_ckL am_PP am_YY 32 B.2) = true := by decide +kernel
theorem am_ke32 : am_ent am_PP am_YY 32 = true := by decide +kernel
theorem am_kc33 : (am_PT.getD 33 []).all (fun B => am_ckL am_PP am_YY 33 B.2) = true := by decide +kernel
theorem am_ke33 : am_ent am_PP am_YY 33 = true := by decide +kernel
theorem am_kc34 : (am_PT.getD 34 []).all (fun B => am_ckL am_PP am_YY 34 B.2) = true := by decide +kernel
theorem am_ke34 : am_ent am_PP am_YY 34 = true := by decide +kernel
theorem am_kc35 : (am_PT.getD 35 []).all (fun B => am_ckL am_PP am_YY 35 B.2) = true := by decide +kernel
theorem am_ke35 : am_ent am_PP am_YY 35 = true := by decide +kernel
theorem am_kc36 : (am_PT.getD 36 []).all (fun B => am_ckL am_PP am_YY 36 B.2) = true := by decide +kernel
theorem am_ke36 : am_ent am_PP am_YY 36 = true := by decide +kernel
theorem am_kc37 : (am_PT.getD 37 []).all (fun B => am_ckL am_PP am_YY 37 B.2) = true := by decide +kernel
theorem am_ke37 : am_ent am_PP am_YY 37 = true := by decide +kernel
theorem am_kc38 : (am_PT.getD 38 []).all (fun B => am_ckL am_PP am_YY 38 B.2) = true := by decide +kernel
theorem am_ke38 : am_ent am_PP am_YY 38 = true := by decide +kernel
theorem am_kc39 : (am_PT.getD 39 []).all (fun B => am_ckL am_PP am_YY 39 B.2) = true := by decide +kernel
theorem am_ke39 : am_ent am_PP am_YY 39 = true := by decide +kernel
theorem am_kc40 : (am_PT.getD 40 []).all (fun B => am_ckL am_PP am_YY 40 B.2) = true := by decide +kernel
theorem am_ke40 : am_ent am_PP am_YY 40 = true := by decide +kernel
theorem am_kc41 : (am_PT.getD 41 []).all (fun B => am_ckL am_PP am_YY 41 B.2) = true := by decide +kernel
theorem am_ke41 : am_ent am_PP am_YY 41 = true := by decide +kernel
theorem am_kc42 : (am_PT.getD 42 []).all (fun B => am_ckL am_PP am_YY 42 B.2) = true := by decide +kernel
theorem am_ke42 : am_ent am_PP am_YY 42 = true := by decide +kernel
theorem am_kc43 : (am_PT.getD 43 []).all (fun B => am_ckL am_PP am_YY 43 B.2) = true := by decide +kernel
theorem am_ke43 : am_ent am_PP am_YY 43 = true := by decide +kernel
theorem am_kc44 : (am_PT.getD 44 []).all (fun B => am_ckL am_PP am_YY 44 B.2) = true := by decide +kernel
theorem am_ke44 : am_ent am_PP am_YY 44 = true := by decide +kernel
theorem am_kc45 : (am_PT.getD 45 []).all (fun B => am_ckL am_PP am_YY 45 B.2) = true := by decide +kernel
theorem am_ke45 : am_ent am_PP am_YY 45 = true := by decide +kernel
theorem am_kc46 : (am_PT.getD 46 []).all (fun B => am_ckL am_PP am_YY 46 B.2) = true := by decide +kernel
theorem am_ke46 : am_ent am_PP am_YY 46 = true := by decide +kernel
theorem am_kc47 : (am_PT.getD 47 []).all (fun B => am_ckL am_PP am_YY 47 B.2) = true := by decide +kernel
theorem am_ke47 : am_ent am_PP am_YY 47 = true := by decide +kernel
theorem am_kc48 : (am_PT.getD 48 []).all (fun B => am_ckL am_PP am_YY 48 B.2) = true := by decide +kernel
theorem am_ke48 : am_ent am_PP am_YY 48 = true := by decide +kernel
theorem am_kc49 : (am_PT.getD 49 []).all (fun B => am_ckL am_PP am_YY 49 B.2) = true := by decide +kernel
theorem am_ke49 : am_ent am_PP am_YY 49 = true := by decide +kernel
theorem am_kc50 : (am_PT.getD 50 []).all (fun B => am_ckL am_PP am_YY 50 B.2) = true := by decide +kernel
theorem am_ke50 : am_ent am_PP am_YY 50 = true := by decide +kernel
theorem am_kc51 : (am_PT.getD 51 []).all (fun B => am_ckL am_PP am_YY 51 B.2) = true := by decide +kernel
theorem am_ke51 : am_ent am_PP am_YY 51 = true := by decide +kernel
theorem am_kc52 : (am_PT.getD 52 []).all (fun B => am_ckL am_PP am_YY 52 B.2) = true := by decide +kernel
theorem am_ke52 : am_ent am_PP am_YY 52 = true := by decide +kernel
theorem am_kc53 : (am_PT.getD 53 []).all (fun B => am_ckL am_PP am_YY 53 B.2) = true := by decide +kernel
theorem am_ke53 : am_ent am_PP am_YY 53 = true := by decide +kernel
theorem am_kc54 : (am_PT.getD 54 []).all (fun B => am_ckL am_PP am_YY 54 B.2) = true := by decide +kernel
theorem am_ke54 : am_ent am_PP am_YY 54 = true := by decide +kernel
theorem am_kc55 : (am_PT.getD 55 []).all (fun B => am_ckL am_PP am_YY 55 B.2) = true := by decide +kernel
theorem am_ke55 : am_ent am_PP am_YY 55 = true := by decide +kernel
