section
theorem tst_a : True := by
  have := @Jvm.Stand.multianewarray2F
  trivial
theorem tst_b : (tables_1.all goodWord) = true := by decide +kernel
end
