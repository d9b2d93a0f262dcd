/** Makes a wrong call to one of two like yards: it must throw what is due, and the two must stay alike. */
final class Refusal {
  private Refusal() {
  }

  static void noSuch(String what, Told made, Told wrong) {
    of(what, IndexOutOfBoundsException.class, made, wrong);
  }

  static void badArgument(String what, Told made, Told wrong) {
    of(what, IllegalArgumentException.class, made, wrong);
  }

  static void badState(String what, Told made, Told wrong) {
    of(what, IllegalStateException.class, made, wrong);
  }

  private static void of(String what, Class<? extends RuntimeException> due, Told made, Told wrong) {
    Warpyard told = new Warpyard();
    Warpyard spared = new Warpyard();
    made.to(told);
    made.to(spared);
    Check.fails(what, due, () -> wrong.to(told));
    Check.is(what + " changes nothing", Sight.of(spared), () -> Sight.of(told));
    Check.is(what + " changes nothing behind", Sight.behind(spared), () -> Sight.behind(told));
  }
}
