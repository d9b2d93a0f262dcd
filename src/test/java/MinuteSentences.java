/** The sentences of the promises 10 to 12: minutes. */
final class MinuteSentences {
  private static final int NONE = Warpyard.NONE;

  private MinuteSentences() {
  }

  static void test() {
    run();
    runRefused();
    clock();
    reaches();
    reachesBehindTheEnd();
    reachesNumbers();
    reachesAnswers();
  }

  private static void run() {
    Check.says("run", "Lets minutes run");
    Warpyard x = Yards.made(y -> y.addTrain(0, true), y -> y.run(3));
    Check.is("3 minutes", 3, () -> x.block(0));
    Check.is("clock", 3, () -> x.clock());
    Warpyard single = Yards.made(y -> y.addTrain(0, true));
    for (int minute = 0; minute < 37; minute++) {
      single.run(1);
    }
    Warpyard together = Yards.made(y -> y.addTrain(0, true), y -> y.run(37));
    Check.is("37 minutes one by one", Sight.of(single), () -> Sight.of(together));
    Check.says("run", "minutes: 1 to 100");
    Warpyard y = Yards.made(Yards.trains(4));
    Check.quiet("1", () -> y.run(1));
    Check.is("clock", 1, () -> y.clock());
    Check.quiet("100", () -> y.run(100));
    Check.is("clock", 101, () -> y.clock());
    Check.says("run", "Returns how often a train came to another block in them");
    Check.is("no train", 0, () -> new Warpyard().run(100));
    Check.is("one that turns round", 0, () -> Yards.made(z -> z.addTrain(5, true)).run(1));
    Check.is("one that is held", 0, () -> Yards.made(Yards.trains(1)).run(100));
    Check.is("one, to the end and back", 10, () -> Yards.made(z -> z.addTrain(0, true)).run(11));
    Warpyard four = Yards.made(z -> z.addTrain(3, true), z -> z.addTrain(2, true), z -> z.addTrain(1, true));
    four.addTrain(0, true);
    Check.is("four behind one another", 8, () -> four.run(2));
    Check.is("the first turns at the end", 0, () -> four.run(1));
    Warpyard again = Yards.made(z -> z.addTrain(0, true), z -> z.run(20));
    Check.is("what came ahead is not counted again", 1, () -> again.run(1));
  }

  private static void runRefused() {
    Check.says("run", "Throws IllegalArgumentException if minutes is out of range");
    for (int minutes : Yards.outside(1, 100)) {
      Refusal.badArgument("run " + minutes, Yards.trains(2), x -> x.run(minutes));
      Refusal.badArgument("run " + minutes + " at the end", Yards.untilClock(5000), x -> x.run(minutes));
    }
    Check.says("run", "Throws IllegalStateException if the clock would be above 5000");
    Refusal.badState("1 from 5000", going(5000), x -> x.run(1));
    Refusal.badState("100 from 5000", going(5000), x -> x.run(100));
    Refusal.badState("2 from 4999", going(4999), x -> x.run(2));
    Refusal.badState("100 from 4901", going(4901), x -> x.run(100));
    Warpyard x = Yards.made(going(4900));
    Check.quiet("100 from 4900", () -> x.run(100));
    Check.is("clock", 5000, () -> x.clock());
    Warpyard y = Yards.made(going(4999));
    Check.quiet("1 from 4999", () -> y.run(1));
    Check.is("clock", 5000, () -> y.clock());
    Warpyard z = Yards.made(going(4901));
    Check.badState("100 from 4901", () -> z.run(100));
    Check.quiet("99 from 4901", () -> z.run(99));
    Check.is("clock", 5000, () -> z.clock());
  }

  /** A train that would show a minute too many, and a booking that it would meet in it. */
  private static Told going(int clock) {
    return x -> {
      x.addTrain(0, true);
      Yards.untilClock(clock).to(x);
      x.book(0, x.block(0), 4999 < clock ? 5000 : 4999, 5000);
      x.delay(0, 3);
    };
  }

  private static void clock() {
    Check.says("clock", "Returns the clock");
    Warpyard x = new Warpyard();
    Check.is("at first", 0, () -> x.clock());
    x.run(1);
    Check.is("behind a minute", 1, () -> x.clock());
    x.addTrain(0, true);
    x.reaches(0, 5);
    x.throwSwitch(0);
    Check.is("only minutes that run count", 1, () -> x.clock());
    Yards.untilClock(5000).to(x);
    Check.is("at the end", 5000, () -> x.clock());
    Check.badState("one more", () -> x.run(1));
    Check.is("at the end still", 5000, () -> x.clock());
  }

  private static void reaches() {
    Check.says("reaches", "Returns in how many minutes a train would first stand on a block, if only time passed (also"
        + " behind the minute 5000)");
    Warpyard x = Yards.made(y -> y.addTrain(2, true));
    int[] due = {9, 8, 0, 1, 2, 3};
    for (int i = 0; i < 6; i++) {
      int block = i;
      Check.is("reaches " + block, due[block], () -> x.reaches(0, block));
    }
    Check.is("where the switch does not lead", NONE, () -> x.reaches(0, 6));
    Check.is("nothing moves", 2, () -> x.block(0));
    Check.is("nor turns", true, () -> x.isRight(0));
    Check.is("no time passes", 0, () -> x.clock());
    othersPass();
    bookingsPass();
    sameAsRun();
  }

  /** The others move as well, in the order of their numbers, and wait out their own delays. */
  private static void othersPass() {
    Warpyard x = Yards.made(y -> y.addTrain(2, true), y -> y.addTrain(3, true), y -> y.delay(1, 4));
    Check.is("behind one that is delayed", 6, () -> x.reaches(0, 3));
    Check.is("the delayed one", 5, () -> x.reaches(1, 4));
    Check.is("its delay is as it was", 5, () -> x.delay(1, 1));
    x.hold(1, true);
    Check.is("behind one that is held", NONE, () -> x.reaches(0, 3));
    Check.is("the held one", NONE, () -> x.reaches(1, 4));
    Warpyard y = Yards.made(z -> z.addTrain(3, true), z -> z.addTrain(2, true));
    Check.is("behind one with a lower number", 1, () -> y.reaches(1, 3));
    Warpyard z = Yards.made(w -> w.addTrain(2, true), w -> w.addTrain(3, true));
    Check.is("behind one with a higher number", 2, () -> z.reaches(0, 3));
  }

  private static void bookingsPass() {
    Warpyard x = Yards.made(y -> y.addTrain(1, true), y -> y.hold(0, true), y -> y.run(10), y -> y.hold(0, false));
    x.addTrain(5, true);
    x.hold(1, true);
    x.book(1, 2, 10, 12);
    x.book(0, 2, 13, 20);
    x.book(1, 3, 14, 14);
    Check.is("behind what is booked for another, in what is booked for itself", 4, () -> x.reaches(0, 2));
    Check.is("behind one minute more that is booked", 6, () -> x.reaches(0, 3));
    Check.is("no booking is met by that", Warpyard.OPEN, () -> x.booking(1));
    Check.is("nor late", NONE, () -> x.late(1));
    Check.is("nor broken", Warpyard.OPEN, () -> x.booking(0));
  }

  /** Answers must be what run then brings, with three trains, a booking and switches. */
  private static void sameAsRun() {
    Told made = y -> {
      y.addTrain(0, true);
      y.addTrain(5, false);
      y.addTrain(7, true);
      y.throwSwitch(1);
      y.delay(1, 9);
      y.book(1, 3, 4, 6);
      y.book(0, 7, 0, 12);
    };
    for (int i = 0; i < 24; i++) {
      int train = i / 8;
      int block = i % 8;
      Warpyard x = Yards.made(made);
      int due = NONE;
      for (int minute = 0; minute <= 100 && due == NONE; minute++) {
        due = x.block(train) == block ? minute : NONE;
        x.run(1);
      }
      Warpyard asked = Yards.made(made);
      Check.is("reaches(" + train + ", " + block + ") as run does", due, () -> asked.reaches(train, block));
    }
  }

  private static void reachesBehindTheEnd() {
    Told made = x -> {
      x.addTrain(0, true);
      x.hold(0, true);
      x.addTrain(5, true);
      x.hold(1, true);
      Yards.untilClock(4998).to(x);
      x.hold(0, false);
      x.book(1, 2, 4999, 5000);
    };
    Warpyard x = Yards.made(made);
    Check.is("in the minute 4998", 1, () -> x.reaches(0, 1));
    Check.is("booked in the minutes 4999 and 5000", 4, () -> x.reaches(0, 2));
    Check.is("behind the minute 5000", 6, () -> x.reaches(0, 4));
    x.run(2);
    Check.is("clock", 5000, () -> x.clock());
    Check.is("booked in the minute 5000", 2, () -> x.reaches(0, 2));
    Check.is("behind it", 3, () -> x.reaches(0, 3));
    x.delay(0, 97);
    Check.is("far behind it", 100, () -> x.reaches(0, 4));
    Check.is("NONE far behind it", NONE, () -> x.reaches(0, 0));
    Check.is("the clock stays", 5000, () -> x.clock());
    Check.is("the booking stays open", Warpyard.OPEN, () -> x.booking(0));
  }

  private static void reachesNumbers() {
    Check.says("reaches", "train: the number of a train");
    Warpyard x = Yards.made(y -> y.addTrain(5, true), y -> y.addTrain(4, true), y -> y.addTrain(3, true));
    x.addTrain(0, true);
    Check.is("train 0", 2, () -> Yards.made(y -> y.addTrain(5, true)).reaches(0, 4));
    Check.is("train 3", 1, () -> x.reaches(3, 1));
    Yards.everyTrain((y, train) -> y.reaches(train, 0));
    Check.says("reaches", "block: 0 to 7");
    Warpyard turned = Yards.made(y -> y.addTrain(0, true), y -> y.throwSwitch(1));
    Check.is("0", 0, () -> turned.reaches(0, 0));
    Check.is("7", 4, () -> turned.reaches(0, 7));
    Yards.everyBlock((y, block) -> y.reaches(0, block));
    Check.says("reaches", "Throws IndexOutOfBoundsException if there is no such train or block");
    Yards.noSuchTrain((y, train) -> y.reaches(train, 0));
    Yards.noSuchBlock((y, block) -> y.reaches(0, block));
    Refusal.noSuch("no such train nor block", Yards.trains(3), y -> y.reaches(3, 8));
  }

  private static void reachesAnswers() {
    Check.says("reaches", "Returns the minutes, 0 if it stands there");
    Warpyard x = Yards.made(y -> y.addTrain(4, true));
    Check.is("the next block", 1, () -> x.reaches(0, 5));
    Check.is("where it stands", 0, () -> x.reaches(0, 4));
    x.hold(0, true);
    Check.is("where it stands, held", 0, () -> x.reaches(0, 4));
    x.delay(0, 100);
    x.delay(0, 1);
    Check.is("where it stands, delayed", 0, () -> x.reaches(0, 4));
    Check.says("reaches", "NONE if it takes more than 100");
    Warpyard y = Yards.made(z -> z.addTrain(0, true), z -> z.delay(0, 98));
    Check.is("99", 99, () -> y.reaches(0, 1));
    Check.is("100", 100, () -> y.reaches(0, 2));
    Check.is("101", NONE, () -> y.reaches(0, 3));
    Check.is("never", NONE, () -> y.reaches(0, 7));
    y.delay(0, 100);
    Check.is("198 minutes of delay", NONE, () -> y.reaches(0, 1));
    y.run(98);
    Check.is("101 minutes are left", NONE, () -> y.reaches(0, 1));
    y.run(1);
    Check.is("100 minutes are left", 100, () -> y.reaches(0, 1));
  }
}
