/** The sentences of 'Terms' about exceptions: what is thrown first, and that a wrong call changes nothing. */
final class WrongCallSentences {
  private static final String TERMS = "Terms";

  private WrongCallSentences() {
  }

  static void test() {
    changesNothing();
    firstNamedException();
  }

  /** Four trains, bookings, a full siding 7 with a full train on it, and an offer for each waggon. */
  private static void busy(Warpyard x) {
    x.addTrain(0, true);
    x.addTrain(3, true);
    x.addTrain(5, false);
    x.addTrain(7, true);
    x.hold(3, true);
    for (int i = 0; i < 2; i++) {
      x.addWaggon(7, 50);
      x.couple(3);
    }
    for (int i = 0; i < 4; i++) {
      x.addWaggon(7, 1);
    }
    x.addWaggon(6, 10);
    x.addWaggon(6, 20);
    x.run(9);
    x.book(0, 3, 9, 20);
    x.book(1, 4, 15, 30);
    for (int i = 0; i < 10; i++) {
      x.delay(2, 100);
    }
    for (int i = 0; i < 8; i++) {
      x.offer(i, 7, 10 * i, 10 + i);
    }
  }

  private static void changesNothing() {
    Check.says(TERMS, "A call that throws an exception changes nothing");
    Told[] noSuch = {
      x -> x.addTrain(8, true), x -> x.hold(4, false), x -> x.delay(4, 1), x -> x.reverse(4), x -> x.throwSwitch(2),
      x -> x.block(4), x -> x.isRight(4), x -> x.trainOn(8), x -> x.reaches(0, 8), x -> x.book(0, 8, 20, 20),
      x -> x.canBook(4, 0, 0, 0), x -> x.canBookByMinutes(4, 0, 0, 0), x -> x.booking(2), x -> x.late(2),
      x -> x.addWaggon(5, 1), x -> x.offer(8, 7, 0, 1), x -> x.offer(0, 8, 0, 1), x -> x.couple(4), x -> x.leave(4),
      x -> x.waggonAt(14, 0),
    };
    Told[] badArgument = {
      x -> x.delay(2, 1), x -> x.delay(0, 101), x -> x.run(101), x -> x.book(0, 0, 8, 20), x -> x.canBook(0, 0, 1, 0),
      x -> x.canBookByMinutes(0, 0, 1, 0), x -> x.addWaggon(6, 101), x -> x.offer(0, 7, 5001, 9), x -> x.offer(0, 7,
      0, 1001),
    };
    Told[] badState = {
      x -> x.addTrain(1, true), x -> x.addWaggon(6, 1), x -> x.addWaggon(7, 1), x -> x.couple(0), x -> x.couple(3),
      x -> x.leave(0), x -> x.leave(3),
    };
    for (int i = 0; i < noSuch.length; i++) {
      Refusal.noSuch("no such, wrong call " + i, WrongCallSentences::busy, noSuch[i]);
    }
    for (int i = 0; i < badArgument.length; i++) {
      Refusal.badArgument("bad argument, wrong call " + i, WrongCallSentences::busy, badArgument[i]);
    }
    for (int i = 0; i < badState.length; i++) {
      Refusal.badState("bad state, wrong call " + i, WrongCallSentences::busy, badState[i]);
    }
  }

  private static void firstNamedException() {
    Check.says(TERMS, "if several exceptions apply, the one that its throws clause names first is thrown");
    Refusal.noSuch("addTrain: block, and 4 trains", Yards.trains(4), x -> x.addTrain(8, true));
    Refusal.noSuch("addTrain: block -1, and 4 trains", Yards.trains(4), x -> x.addTrain(-1, true));
    Refusal.noSuch("delay: train, and minutes", Yards.trains(4), x -> x.delay(4, 0));
    Refusal.noSuch("delay: train -1, and minutes", Yards.trains(4), x -> x.delay(-1, 101));
    Refusal.badArgument("run: minutes, and the clock", Yards.untilClock(4950), x -> x.run(101));
    Refusal.badArgument("run: minutes, and the clock's end", Yards.untilClock(5000), x -> x.run(Integer.MAX_VALUE));
    ofBook();
    ofAsking();
    ofWaggons();
  }

  private static void ofBook() {
    Told full = Yards.all(Yards.trains(2), Yards.bookings(30), x -> x.run(5));
    for (int train : new int[] {-1, 2}) {
      Refusal.noSuch("book: train, and first", Yards.trains(2), x -> x.book(train, 0, -1, 5));
      Refusal.noSuch("book: train, and last", Yards.trains(2), x -> x.book(train, 0, 5, 4));
      Refusal.noSuch("book: train, and 30 bookings", full, x -> x.book(train, 0, 5, 5));
      Refusal.noSuch("book: train, minutes, and 30 bookings", full, x -> x.book(train, 0, 4, 5001));
    }
    for (int block : new int[] {-1, 8}) {
      Refusal.noSuch("book: block, and first", Yards.trains(2), x -> x.book(0, block, 5001, 5001));
      Refusal.noSuch("book: block, and last", Yards.trains(2), x -> x.book(0, block, 5, 5001));
      Refusal.noSuch("book: block, and 30 bookings", full, x -> x.book(0, block, 5, 5));
      Refusal.noSuch("book: block, minutes, and 30 bookings", full, x -> x.book(0, block, 5, 4));
    }
    Refusal.badArgument("book: first, and 30 bookings", full, x -> x.book(0, 0, 4, 5));
    Refusal.badArgument("book: last, and 30 bookings", full, x -> x.book(0, 0, 5, 4));
    Refusal.badArgument("book: last above, and 30 bookings", full, x -> x.book(0, 0, 5, 5001));
    Refusal.badArgument("book: last, and it would meet another", full, x -> x.book(1, 0, 4000, 5001));
  }

  private static void ofAsking() {
    for (int[] wrong : new int[][] {{-1, 0}, {2, 0}, {0, -1}, {0, 8}, {2, 8}}) {
      for (int[] span : new int[][] {{-1, 0}, {5001, 5001}, {5, 4}, {5, 5001}}) {
        Refusal.noSuch("canBook: train or block, and minutes", Yards.trains(2),
            x -> x.canBook(wrong[0], wrong[1], span[0], span[1]));
        Refusal.noSuch("canBookByMinutes: train or block, and minutes", Yards.trains(2),
            x -> x.canBookByMinutes(wrong[0], wrong[1], span[0], span[1]));
      }
    }
  }

  private static void ofWaggons() {
    Told full = WrongCallSentences::busy;
    for (int siding : new int[] {5, 8}) {
      Refusal.noSuch("addWaggon: siding, and weight", Yards.trains(2), x -> x.addWaggon(siding, 0));
      Refusal.noSuch("addWaggon: siding, and 8 waggons", full, x -> x.addWaggon(siding, 1));
      Refusal.noSuch("addWaggon: siding, weight, and 8 waggons", full, x -> x.addWaggon(siding, 101));
      Refusal.noSuch("offer: siding, and minute", Yards.trains(2), x -> x.offer(0, siding, -1, 1));
      Refusal.noSuch("offer: siding, and price", Yards.trains(2), x -> x.offer(0, siding, 0, 0));
    }
    Refusal.badArgument("addWaggon: weight 0, and 8 waggons", full, x -> x.addWaggon(6, 0));
    Refusal.badArgument("addWaggon: weight 101, and 8 waggons, and 4 in the siding", full, x -> x.addWaggon(7, 101));
    Told four = x -> {
      for (int i = 0; i < 4; i++) {
        x.addWaggon(6, 1);
      }
    };
    Refusal.badArgument("addWaggon: weight 0, and 4 in the siding", four, x -> x.addWaggon(6, 0));
    for (int waggon : new int[] {-1, 4}) {
      Refusal.noSuch("offer: waggon, and minute", four, x -> x.offer(waggon, 6, 5001, 1));
      Refusal.noSuch("offer: waggon, and price", four, x -> x.offer(waggon, 6, 0, 1001));
      Refusal.noSuch("offer: waggon, siding, minute and price", four, x -> x.offer(waggon, 5, -1, 0));
    }
  }
}
