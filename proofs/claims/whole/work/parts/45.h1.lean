/-! the law's own table, chunks from 13 -/
set_option maxRecDepth 20000 in
theorem zch13 : zokL zq372 390 ((zk372.drop 390).take 30) = true := by decide +kernel
set_option maxRecDepth 20000 in
theorem zch14 : zokL zq372 420 ((zk372.drop 420).take 30) = true := by decide +kernel
set_option maxRecDepth 20000 in
theorem zch15 : zokL zq372 450 ((zk372.drop 450).take 30) = true := by decide +kernel
set_option maxRecDepth 20000 in
theorem zch16 : zokL zq372 480 ((zk372.drop 480).take 30) = true := by decide +kernel
set_option maxRecDepth 20000 in
theorem zch17 : zokL zq372 510 ((zk372.drop 510).take 30) = true := by decide +kernel
set_option maxRecDepth 20000 in
theorem zch18 : zokL zq372 540 ((zk372.drop 540).take 30) = true := by decide +kernel
set_option maxRecDepth 20000 in
theorem zch19 : zokL zq372 570 ((zk372.drop 570).take 30) = true := by decide +kernel
set_option maxRecDepth 20000 in
theorem zch20 : zokL zq372 600 ((zk372.drop 600).take 30) = true := by decide +kernel
set_option maxRecDepth 20000 in
theorem zch21 : zokL zq372 630 ((zk372.drop 630).take 30) = true := by decide +kernel
set_option maxRecDepth 20000 in
theorem zch22 : zokL zq372 660 ((zk372.drop 660).take 30) = true := by decide +kernel
set_option maxRecDepth 20000 in
theorem zch23 : zokL zq372 690 ((zk372.drop 690).take 30) = true := by decide +kernel
set_option maxRecDepth 20000 in
theorem zch24 : zokL zq372 720 ((zk372.drop 720).take 30) = true := by decide +kernel
set_option maxRecDepth 20000 in
theorem zch25 : zokL zq372 750 ((zk372.drop 750).take 30) = true := by decide +kernel
