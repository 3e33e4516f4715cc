theorem zz_last : True := by
  have h1 := @c_call_trap
  have h2 := @c_call_ok
  have h3 := @c_told_bad
  have h4 := @c_goesBehindEnd
  trivial
