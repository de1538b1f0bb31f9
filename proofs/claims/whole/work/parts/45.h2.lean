/-! the law's own table, chunks from 26 -/
set_option maxRecDepth 20000 in
theorem zch26 : zokL zq372 780 ((zk372.drop 780).take 30) = true := by decide +kernel
set_option maxRecDepth 20000 in
theorem zch27 : zokL zq372 810 ((zk372.drop 810).take 30) = true := by decide +kernel
set_option maxRecDepth 20000 in
theorem zch28 : zokL zq372 840 ((zk372.drop 840).take 30) = true := by decide +kernel
set_option maxRecDepth 20000 in
theorem zch29 : zokL zq372 870 ((zk372.drop 870).take 30) = true := by decide +kernel
set_option maxRecDepth 20000 in
theorem zch30 : zokL zq372 900 ((zk372.drop 900).take 30) = true := by decide +kernel
set_option maxRecDepth 20000 in
theorem zch31 : zokL zq372 930 ((zk372.drop 930).take 30) = true := by decide +kernel
set_option maxRecDepth 20000 in
theorem zch32 : zokL zq372 960 ((zk372.drop 960).take 30) = true := by decide +kernel
set_option maxRecDepth 20000 in
theorem zch33 : zokL zq372 990 ((zk372.drop 990).take 30) = true := by decide +kernel
set_option maxRecDepth 20000 in
theorem zch34 : zokL zq372 1020 ((zk372.drop 1020).take 30) = true := by decide +kernel
set_option maxRecDepth 20000 in
theorem zch35 : zokL zq372 1050 ((zk372.drop 1050).take 30) = true := by decide +kernel
set_option maxRecDepth 20000 in
theorem zch36 : zokL zq372 1080 ((zk372.drop 1080).take 30) = true := by decide +kernel
set_option maxRecDepth 20000 in
theorem zch37 : zokL zq372 1110 ((zk372.drop 1110).take 30) = true := by decide +kernel
set_option maxRecDepth 20000 in
theorem zch38 : zokL zq372 1140 ((zk372.drop 1140).take 30) = true := by decide +kernel
