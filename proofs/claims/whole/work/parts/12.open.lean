section SIM
variable {B n mm : Nat} {t v C FF FO g : Nat → Nat → Int32}
theorem sim_check (h : Rel B n mm t v C FF FO g) (x1 x2 x3 x4 x5 x6 x7 : Int32) : (chA n t x1 x2 x3 x4 x5 x6 < 0 ∧ fX3_check g x1 x2 x3 x4 x5 x6 x7 = (chA n t x1 x2 x3 x4 x5 x6, g)) ∨ (¬ chA n t x1 x2 x3 x4 x5 x6 < 0 ∧ (fX3_check g x1 x2 x3 x4 x5 x6 x7).1 = chA n t x1 x2 x3 x4 x5 x6 ∧ Rel B (n + 1) mm (va_up t 1 (fun _ => (t 1 0) + 1)) v (va_up C n (kZ x1 x2 x3 x4 x5 x6 x7)) (va_up FF n (fun _ => 0)) (va_up FO n (fun _ => 0)) (fX3_check g x1 x2 x3 x4 x5 x6 x7).2) := sorry
theorem sim_end (h : Rel B n mm t v C FF FO g) (hB : B < 2 ^ 30) : (fX2_end n t C FF FO).1 = (fX3_end g n).1 ∧ Rel (B + 1) n mm (fX2_end n t C FF FO).2.1 v (fX2_end n t C FF FO).2.2.1 (fX2_end n t C FF FO).2.2.2.1 (fX2_end n t C FF FO).2.2.2.2 (fX3_end g n).2 := sorry
theorem sim_room (h : Rel B n mm t v C FF FO g) (x : Int32) : (fX2_room n t C x).1 = (fX3_room g n x).1 ∧ Rel B n mm (fX2_room n t C x).2.1 v (fX2_room n t C x).2.2 FF FO (fX3_room g n x).2 := sorry
theorem sim_least (h : Rel B n mm t v C FF FO g) : (fX2_least n mm v C).1 = (fX3_least g n mm).1 ∧ Rel B n mm t (fX2_least n mm v C).2 C FF FO (fX3_least g n mm).2 := sorry
theorem sim_leastAt (h : Rel B n mm t v C FF FO g) (x : Int32) : (fX2_leastAt n mm v C x).1 = (fX3_leastAt g n mm x).1 ∧ Rel B n mm t (fX2_leastAt n mm v C x).2 C FF FO (fX3_leastAt g n mm x).2 := sorry
theorem sim_plan (h : Rel B n mm t v C FF FO g) : (fX2_plan n mm v C).1 = (fX3_plan g n mm).1 ∧ Rel B n mm t (fX2_plan n mm v C).2 C FF FO (fX3_plan g n mm).2 := sorry
theorem sim_test (h : Rel B n mm t v C FF FO g) : (fX2_test n mm v C).1 = (fX3_test g n mm).1 ∧ Rel B n mm t (fX2_test n mm v C).2 C FF FO (fX3_test g n mm).2 := sorry
theorem sim_cause (h : Rel B n mm t v C FF FO g) (x y : Int32) : (fX2_cause t v x y).1 = (fX3_cause g x y).1 ∧ ∃ m2, Rel B n m2 t (fX2_cause t v x y).2 C FF FO (fX3_cause g x y).2 := sorry
theorem sim_explains (h : Rel B n mm t v C FF FO g) (x : Int32) : fX2_explains n v C x = fX3_explains g n mm x := sorry
theorem sim_count (h : Rel B n mm t v C FF FO g) (x : Int32) : countC n t v C x = countF g n x := sorry
theorem sim_digest (h : Rel B n mm t v C FF FO g) : dgW (v 0) (v 1) (dcF (t 2) (dcN t C FF (dcC n t v C 8) n) 4) mm = digF g n mm := sorry
end SIM


