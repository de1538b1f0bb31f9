/-! the law's own table, chunks from 39 -/
set_option maxRecDepth 20000 in
theorem zch39 : zokL zq372 1170 ((zk372.drop 1170).take 30) = true := by decide +kernel
set_option maxRecDepth 20000 in
theorem zch40 : zokL zq372 1200 ((zk372.drop 1200).take 30) = true := by decide +kernel
set_option maxRecDepth 20000 in
theorem zch41 : zokL zq372 1230 ((zk372.drop 1230).take 30) = true := by decide +kernel
set_option maxRecDepth 20000 in
theorem zch42 : zokL zq372 1260 ((zk372.drop 1260).take 30) = true := by decide +kernel
set_option maxRecDepth 20000 in
theorem zch43 : zokL zq372 1290 ((zk372.drop 1290).take 30) = true := by decide +kernel
set_option maxRecDepth 20000 in
theorem zch44 : zokL zq372 1320 ((zk372.drop 1320).take 30) = true := by decide +kernel
set_option maxRecDepth 20000 in
theorem zch45 : zokL zq372 1350 ((zk372.drop 1350).take 30) = true := by decide +kernel
set_option maxRecDepth 20000 in
theorem zch46 : zokL zq372 1380 ((zk372.drop 1380).take 30) = true := by decide +kernel
set_option maxRecDepth 20000 in
theorem zch47 : zokL zq372 1410 ((zk372.drop 1410).take 30) = true := by decide +kernel
set_option maxRecDepth 20000 in
theorem zch48 : zokL zq372 1440 ((zk372.drop 1440).take 30) = true := by decide +kernel
set_option maxRecDepth 20000 in
theorem zch49 : zokL zq372 1470 ((zk372.drop 1470).take 30) = true := by decide +kernel
set_option maxRecDepth 20000 in
theorem zch50 : zokL zq372 1500 ((zk372.drop 1500).take 30) = true := by decide +kernel
