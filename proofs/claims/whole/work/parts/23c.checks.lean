theorem am_kc56 : (am_PT.getD 56 []).all (fun B => am_ckL am_PP am_YY 56 B.2) = true := by decide +kernel
theorem am_ke56 : am_ent am_PP am_YY 56 = true := by decide +kernel
theorem am_kc57 : (am_PT.getD 57 []).all (fun B => am_ckL am_PP am_YY 57 B.2) = true := by decide +kernel
theorem am_ke57 : am_ent am_PP am_YY 57 = true := by decide +kernel
theorem am_kc58 : (am_PT.getD 58 []).all (fun B => am_ckL am_PP am_YY 58 B.2) = true := by decide +kernel
theorem am_ke58 : am_ent am_PP am_YY 58 = true := by decide +kernel
theorem am_kc59 : (am_PT.getD 59 []).all (fun B => am_ckL am_PP am_YY 59 B.2) = true := by decide +kernel
theorem am_ke59 : am_ent am_PP am_YY 59 = true := by decide +kernel
theorem am_kc60 : (am_PT.getD 60 []).all (fun B => am_ckL am_PP am_YY 60 B.2) = true := by decide +kernel
theorem am_ke60 : am_ent am_PP am_YY 60 = true := by decide +kernel
theorem am_kc61 : (am_PT.getD 61 []).all (fun B => am_ckL am_PP am_YY 61 B.2) = true := by decide +kernel
theorem am_ke61 : am_ent am_PP am_YY 61 = true := by decide +kernel
theorem am_kc62 : (am_PT.getD 62 []).all (fun B => am_ckL am_PP am_YY 62 B.2) = true := by decide +kernel
theorem am_ke62 : am_ent am_PP am_YY 62 = true := by decide +kernel
theorem am_kc63 : (am_PT.getD 63 []).all (fun B => am_ckL am_PP am_YY 63 B.2) = true := by decide +kernel
theorem am_ke63 : am_ent am_PP am_YY 63 = true := by decide +kernel
theorem am_kc64 : (am_PT.getD 64 []).all (fun B => am_ckL am_PP am_YY 64 B.2) = true := by decide +kernel
theorem am_ke64 : am_ent am_PP am_YY 64 = true := by decide +kernel
theorem am_kc65 : (am_PT.getD 65 []).all (fun B => am_ckL am_PP am_YY 65 B.2) = true := by decide +kernel
theorem am_ke65 : am_ent am_PP am_YY 65 = true := by decide +kernel
theorem am_kc66 : (am_PT.getD 66 []).all (fun B => am_ckL am_PP am_YY 66 B.2) = true := by decide +kernel
theorem am_ke66 : am_ent am_PP am_YY 66 = true := by decide +kernel
theorem am_kc67 : (am_PT.getD 67 []).all (fun B => am_ckL am_PP am_YY 67 B.2) = true := by decide +kernel
theorem am_ke67 : am_ent am_PP am_YY 67 = true := by decide +kernel
theorem am_kc68 : (am_PT.getD 68 []).all (fun B => am_ckL am_PP am_YY 68 B.2) = true := by decide +kernel
theorem am_ke68 : am_ent am_PP am_YY 68 = true := by decide +kernel
theorem am_kc69 : (am_PT.getD 69 []).all (fun B => am_ckL am_PP am_YY 69 B.2) = true := by decide +kernel
theorem am_ke69 : am_ent am_PP am_YY 69 = true := by decide +kernel
theorem am_kc70 : (am_PT.getD 70 []).all (fun B => am_ckL am_PP am_YY 70 B.2) = true := by decide +kernel
theorem am_ke70 : am_ent am_PP am_YY 70 = true := by decide +kernel
theorem am_kc71 : (am_PT.getD 71 []).all (fun B => am_ckL am_PP am_YY 71 B.2) = true := by decide +kernel
theorem am_ke71 : am_ent am_PP am_YY 71 = true := by decide +kernel
theorem am_kc72 : (am_PT.getD 72 []).all (fun B => am_ckL am_PP am_YY 72 B.2) = true := by decide +kernel
theorem am_ke72 : am_ent am_PP am_YY 72 = true := by decide +kernel
theorem am_kc73 : (am_PT.getD 73 []).all (fun B => am_ckL am_PP am_YY 73 B.2) = true := by decide +kernel
theorem am_ke73 : am_ent am_PP am_YY 73 = true := by decide +kernel
theorem am_kc74 : (am_PT.getD 74 []).all (fun B => am_ckL am_PP am_YY 74 B.2) = true := by decide +kernel
theorem am_ke74 : am_ent am_PP am_YY 74 = true := by decide +kernel
theorem am_kc75 : (am_PT.getD 75 []).all (fun B => am_ckL am_PP am_YY 75 B.2) = true := by decide +kernel
theorem am_ke75 : am_ent am_PP am_YY 75 = true := by decide +kernel
theorem am_kc76 : (am_PT.getD 76 []).all (fun B => am_ckL am_PP am_YY 76 B.2) = true := by decide +kernel
theorem am_ke76 : am_ent am_PP am_YY 76 = true := by decide +kernel
theorem am_kc77 : (am_PT.getD 77 []).all (fun B => am_ckL am_PP am_YY 77 B.2) = true := by decide +kernel
theorem am_ke77 : am_ent am_PP am_YY 77 = true := by decide +kernel
theorem am_kc78 : (am_PT.getD 78 []).all (fun B => am_ckL am_PP am_YY 78 B.2) = true := by decide +kernel
theorem am_ke78 : am_ent am_PP am_YY 78 = true := by decide +kernel
theorem am_kc79 : (am_PT.getD 79 []).all (fun B => am_ckL am_PP am_YY 79 B.2) = true := by decide +kernel
theorem am_ke79 : am_ent am_PP am_YY 79 = true := by decide +kernel
theorem am_kc80 : (am_PT.getD 80 []).all (fun B => am_ckL am_PP am_YY 80 B.2) = true := by decide +kernel
theorem am_ke80 : am_ent am_PP am_YY 80 = true := by decide +kernel
theorem am_kc81 : (am_PT.getD 81 []).all (fun B => am_ckL am_PP am_YY 81 B.2) = true := by decide +kernel
theorem am_ke81 : am_ent am_PP am_YY 81 = true := by decide +kernel
theorem am_kc82 : (am_PT.getD 82 []).all (fun B => am_ckL am_PP am_YY 82 B.2) = true := by decide +kernel
theorem am_ke82 : am_ent am_PP am_YY 82 = true := by decide +kernel
theorem am_kc83 : (am_PT.getD 83 []).all (fun B => am_ckL am_PP am_YY 83 B.2) = true := by decide +kernel
theorem am_ke83 : am_ent am_PP am_YY 83 = true := by decide +kernel
