theorem wd_lib : True := by
  have h := @Jvm.Stand.arrayOver_alikeB
  trivial
